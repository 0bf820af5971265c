/-! a period's grants -/
section PD
variable {lowCap highCap lowE highE lim powr : Nat → Int32} {base slope steep knee air : Int32} {idle bnd : Nat → Int32} {bou : Nat → Int64} {b : Nat → Int}
theorem m_g9 {st : Nat → Int32} {k : Nat} (r : Nat) {found : Int32} (hf : ¬ found = 0) (stp : Int32) (trd : Nat → Int32) (nxt prb : Nat → Int64) : p_mGrantOne_9 air base slope steep knee lowCap highCap lowE highE lim powr bou st k r stp found trd nxt prb = (upd st k stp, trd, nxt, prb) := by
  cases r with
  | zero => rw [p_mGrantOne_9]; split <;> rfl
  | succ r =>
    rw [p_mGrantOne_9, if_neg hf]
    split <;> rfl
theorem m_g20 {st : Nat → Int32} : ∀ (r k : Nat) (trd : Nat → Int32), k + r = 4 → (∀ j : Nat, j < k → trd j = st j) → ∀ j : Nat, j < 4 → p_mGrantOne_20 st r k trd j = st j := by
  intro r
  induction r with
  | zero => intro k trd hk h j hj; exact h j (by omega)
  | succ r ih =>
    intro k trd hk h j hj
    rw [p_mGrantOne_20]
    refine ih (k + 1) _ (by omega) (fun j hj => ?_) j hj
    by_cases e : j = k
    · subst e; exact pk_us
    · rw [pk_un e]; exact h j (by omega)
theorem n_z {x : Int32} (h : x.toInt = 0) : x = nI 0 := n_eq.mpr (by rw [h]; decide)
/-- one core's grant -/
theorem s_grant (K : cf_K lowCap highCap lowE highE lim powr base slope steep knee) (hid : ∀ j : Nat, j < 4 → idle j = nI 0) (B : nu_b b) (hb : ∀ o : Nat, o < 7 → (bnd o).toInt = b o) (hr : ∀ o : Nat, o < 6 → (bou o).toInt = b o) (ha : air.toInt = b 6) {k : Nat} (hk : k < 4) {st : Nat → Int32} :
    ∀ (r : Nat) (step : Int32) (gra tri gro : Nat → Int32) (found : Int32) (trd : Nat → Int32) (nxt prb : Nat → Int64), 0 ≤ step.toInt → step.toInt ≤ r → r ≤ 3 → found = 0 → (∀ j : Nat, j < 4 → ¬ j = k → gra j = st j ∧ vp_in (gra j) 4) → (∀ j : Nat, j < 4 → trd j = nI 0) →
      ∃ s : Int32, vp_in s 4 ∧ (∀ j : Nat, (p_grantGreatest_8 idle base slope steep knee lowCap highCap lowE highE lim powr bnd k r step gra tri gro).1 j = if j = k then s else gra j) ∧ (p_mGrantOne_9 air base slope steep knee lowCap highCap lowE highE lim powr bou st k r step found trd nxt prb).1 = upd st k s ∧
        (∀ j : Nat, j < 4 → (p_mGrantOne_9 air base slope steep knee lowCap highCap lowE highE lim powr bou st k r step found trd nxt prb).2.1 j = nI 0) ∧ (s = nI 0 ∨ mt_ok (nu_F lowCap highCap lowE highE powr base slope steep knee (upd gra k s)) (nu_F lowCap highCap lowE highE powr base slope steep knee idle) (iE lim) 8 b) := by
  intro r
  induction r with
  | zero =>
    intro step gra tri gro found trd nxt prb h0 hs h3 hf hg ht
    have e : step = nI 0 := n_z (by omega)
    refine ⟨nI 0, vin_0, fun j => ?_, ?_, ?_, Or.inl rfl⟩
    · rw [p_grantGreatest_8]; rfl
    · rw [p_mGrantOne_9, e]; split <;> rfl
    · rw [p_mGrantOne_9]; split <;> exact ht
  | succ r ih =>
    intro step gra tri gro found trd nxt prb h0 hs h3 hf hg ht
    by_cases hz : step ≤ 0
    · have e : step = nI 0 := n_z (by have := n_le.mp hz; rw [n_0] at this; omega)
      refine ⟨nI 0, vin_0, fun j => ?_, ?_, ?_, Or.inl rfl⟩
      · rw [p_grantGreatest_8, if_pos hz]; rfl
      · rw [p_mGrantOne_9, if_pos hz, e]
      · rw [p_mGrantOne_9, if_pos hz]; exact ht
    · have hz' : ¬ step.toInt ≤ (0 : Int32).toInt := fun q => hz (n_le.mpr q)
      rw [n_0] at hz'
      have hin : vp_in step 4 := vp_in_iff.mpr ⟨by omega, by omega⟩
      have hv : ∀ j, j < 4 → vp_in (upd gra k step j) 4 := fun j hj => by
        by_cases e : j = k
        · subst e; rw [pk_us]; exact hin
        · rw [pk_un e]; exact (hg j hj e).2
      have hsame : ∀ j, j < 4 → upd gra k step j = upd (p_mGrantOne_20 st 4 0 trd) k step j := fun j hj => by
        by_cases e : j = k
        · subst e; rw [pk_us, pk_us]
        · rw [pk_un e, pk_un e, m_g20 4 0 trd rfl (fun j hj => by omega) j hj]; exact (hg j hj e).1
      obtain ⟨i1, i2, i3⟩ := s_safe (air := air) K hv hsame hid B hb hr ha tri gro nxt prb
      rw [p_grantGreatest_8, p_mGrantOne_9, if_neg hz, if_neg hz, if_pos hf]
      simp only [ap1, ap3, ap4]
      have hbz := bz_isSafe tri idle base slope steep knee lowCap highCap lowE highE lim powr gro bnd (upd gra k step)
      by_cases hc : (p_isSafe tri idle base slope steep knee lowCap highCap lowE highE lim powr gro bnd (upd gra k step)).1 = 0
      · rw [if_pos hc, if_pos (by rw [← i1]; exact hc), show step - nI 1 = step + (-1) from by rw [Int32.sub_eq_add_neg]; rfl]
        have ed : (step + (-1)).toInt = step.toInt - 1 := by rw [n_add (by rw [n_m1]; omega) (by rw [n_m1]; omega), n_m1]; omega
        obtain ⟨s, a1, a2, a3, a4, a5⟩ := ih (step + (-1)) (upd gra k step) _ _ _ _ _ _ (by omega) (by omega) (by omega) (i1.symm.trans hc) (fun j hj e => by rw [pk_un e]; exact hg j hj e) i3
        refine ⟨s, a1, fun j => ?_, a3, a4, ?_⟩
        · rw [a2 j]
          by_cases e : j = k
          · rw [if_pos e, if_pos e]
          · rw [if_neg e, if_neg e, pk_un e]
        · rcases a5 with h | h
          · exact Or.inl h
          · refine Or.inr ?_
            have e : nu_F lowCap highCap lowE highE powr base slope steep knee (upd gra k s) = nu_F lowCap highCap lowE highE powr base slope steep knee (upd (upd gra k step) k s) := nu_F_stp (fun j hj => by
              by_cases e : j = k
              · subst e; rw [pk_us, pk_us]
              · rw [pk_un e, pk_un e, pk_un e])
            rw [e]; exact h
      · rw [if_neg hc, if_neg (by rw [← i1]; exact hc), m_g9 r (by rw [← i1]; exact hc)]
        refine ⟨step, hin, fun j => rfl, rfl, i3, Or.inr (i2 ?_)⟩
        rcases hbz with h | h
        · exact absurd h hc
        · exact h
/-- what holds between two grants -/
def gr_R (lowCap highCap lowE highE lim powr : Nat → Int32) (base slope steep knee : Int32) (idle wishes : Nat → Int32) (b : Nat → Int) (gra st tr : Nat → Int32) : Prop :=
  (∀ j : Nat, j < 4 → gra j = st j ∧ vp_in (gra j) 4) ∧ (∀ j : Nat, j < 4 → wishes j < 0 → gra j = nI 0) ∧ (∀ j : Nat, j < 4 → tr j = nI 0) ∧ mt_ok (nu_F lowCap highCap lowE highE powr base slope steep knee gra) (nu_F lowCap highCap lowE highE powr base slope steep knee idle) (iE lim) 8 b
def mG (air base slope steep knee : Int32) (lowCap highCap lowE highE lim powr : Nat → Int32) (bou : Nat → Int64) (wishes : Nat → Int32) (σ : (Nat → Int32) × (Nat → Int32) × (Nat → Int64) × (Nat → Int64)) (c : Nat) : (Nat → Int32) × (Nat → Int32) × (Nat → Int64) × (Nat → Int64) := p_mGrantOne air base slope steep knee lowCap highCap lowE highE lim powr bou σ.2.2.1 σ.2.2.2 σ.2.1 σ.1 wishes c
def mA (wishes : Nat → Int32) (σ : (Nat → Int32) × (Nat → Int32) × (Nat → Int64) × (Nat → Int64)) (c : Nat) : (Nat → Int32) × (Nat → Int32) × (Nat → Int64) × (Nat → Int64) := (upd σ.1 c (wishes c), σ.2.1, σ.2.2.1, σ.2.2.2)
theorem pw_0 (K : cf_K lowCap highCap lowE highE lim powr base slope steep knee) (hpr : ∀ j : Nat, j < 4 → (powr 0).toInt ≤ (powr j).toInt) {gra : Nat → Int32} {k : Nat} (hv : ∀ j : Nat, j < 4 → vp_in (gra j) 4) (b : Nat → Int) : mt_le (nu_F lowCap highCap lowE highE powr base slope steep knee (upd gra k (nI 0)) b) (nu_F lowCap highCap lowE highE powr base slope steep knee gra b) := by
  refine nu_F_pow K (fun j hj => ?_) b
  by_cases e : j = k
  · subst e; rw [pk_us, show (nI 0).toNatClampNeg = 0 by decide]; exact hpr _ (vin_lt (hv j hj))
  · rw [pk_un e]; exact Int.le_refl _
/-- one turn -/
theorem s_turn1 (K : cf_K lowCap highCap lowE highE lim powr base slope steep knee) (hpr : ∀ j : Nat, j < 4 → (powr 0).toInt ≤ (powr j).toInt) (hid : ∀ j : Nat, j < 4 → idle j = nI 0) (B : nu_b b) (hb : ∀ o : Nat, o < 7 → (bnd o).toInt = b o) (hr : ∀ o : Nat, o < 6 → (bou o).toInt = b o) (ha : air.toInt = b 6) {wishes qwishes : Nat → Int32} (hwi : ∀ j : Nat, j < 4 → wishes j = qwishes j ∧ (wishes j).toInt ≤ 3) {k : Nat} (hk : k < 4)
    {gra : Nat → Int32} (tri gro : Nat → Int32) (σ : (Nat → Int32) × (Nat → Int32) × (Nat → Int64) × (Nat → Int64)) (R : gr_R lowCap highCap lowE highE lim powr base slope steep knee idle wishes b gra σ.1 σ.2.1) :
    gr_R lowCap highCap lowE highE lim powr base slope steep knee idle wishes b (p_grantGreatest wishes gra tri idle base slope steep knee lowCap highCap lowE highE lim powr gro bnd k).1 (if wbR wishes k = true then mG air base slope steep knee lowCap highCap lowE highE lim powr bou qwishes σ k else σ).1 (if wbR wishes k = true then mG air base slope steep knee lowCap highCap lowE highE lim powr bou qwishes σ k else σ).2.1 := by
  obtain ⟨r1, r2, r3, r4⟩ := R
  have hv : ∀ j : Nat, j < 4 → vp_in (gra j) 4 := fun j hj => (r1 j hj).2
  have hw : wbR wishes k = true ↔ ¬ wishes k < 0 := by
    unfold wbR
    rw [decide_eq_true hk]
    simp
  have low : mt_ok (nu_F lowCap highCap lowE highE powr base slope steep knee (upd gra k (nI 0))) (nu_F lowCap highCap lowE highE powr base slope steep knee idle) (iE lim) 8 b := mt_ok_f (nu_F_mono K) (nu_F_mono K) (nu_F_mono K) (pw_0 K hpr hv) 8 b r4
  by_cases hn : wishes k < 0
  · rw [if_neg (fun q => hw.mp q hn)]
    have e : (p_grantGreatest wishes gra tri idle base slope steep knee lowCap highCap lowE highE lim powr gro bnd k).1 = upd gra k (nI 0) := by
      unfold p_grantGreatest
      rw [p_grantGreatest_8, if_pos (n_le.mpr (by have := n_lt.mp hn; omega))]
    rw [e]
    have hz : ∀ j : Nat, upd gra k (nI 0) j = gra j := fun j => by
      by_cases e : j = k
      · subst e; rw [pk_us]; exact (r2 j hk hn).symm
      · rw [pk_un e]
    exact ⟨fun j hj => by rw [hz j]; exact r1 j hj, fun j hj q => by rw [hz j]; exact r2 j hj q, r3, low⟩
  · rw [if_pos (hw.mpr hn)]
    have h0 : 0 ≤ (wishes k).toInt := by
      have : ¬ (wishes k).toInt < (0 : Int32).toInt := fun q => hn (n_lt.mpr q)
      rw [n_0] at this; omega
    obtain ⟨s, a1, a2, a3, a4, a5⟩ := s_grant (air := air) (st := σ.1) K hid B hb hr ha hk 3 (wishes k) gra tri gro (nI 0) σ.2.1 σ.2.2.1 σ.2.2.2 h0 (hwi k hk).2 (by omega) (by decide) (fun j hj _ => r1 j hj) r3
    have em : mG air base slope steep knee lowCap highCap lowE highE lim powr bou qwishes σ k = p_mGrantOne_9 air base slope steep knee lowCap highCap lowE highE lim powr bou σ.1 k 3 (wishes k) (nI 0) σ.2.1 σ.2.2.1 σ.2.2.2 := by
      unfold mG p_mGrantOne
      rw [(hwi k hk).1]
    rw [em, a3]
    have ec : ∀ j : Nat, (p_grantGreatest wishes gra tri idle base slope steep knee lowCap highCap lowE highE lim powr gro bnd k).1 j = if j = k then s else gra j := a2
    have hF : nu_F lowCap highCap lowE highE powr base slope steep knee (p_grantGreatest wishes gra tri idle base slope steep knee lowCap highCap lowE highE lim powr gro bnd k).1 = nu_F lowCap highCap lowE highE powr base slope steep knee (upd gra k s) := nu_F_stp (fun j _ => ec j)
    refine ⟨fun j hj => ?_, fun j hj q => ?_, a4, ?_⟩
    · rw [ec j]
      by_cases e : j = k
      · subst e; rw [if_pos rfl, pk_us]; exact ⟨rfl, a1⟩
      · rw [if_neg e, pk_un e]; exact r1 j hj
    · rw [ec j]
      by_cases e : j = k
      · subst e; exact absurd q hn
      · rw [if_neg e]; exact r2 j hj q
    · rw [hF]
      rcases a5 with h | h
      · rw [h]; exact low
      · exact h
theorem foldl_filter_cons {α β : Type} (f : α → β → α) (w : β → Bool) (σ : α) (k : β) (l : List β) : ((k :: l).filter w).foldl f σ = (l.filter w).foldl f (if w k = true then f σ k else σ) := by
  cases h : w k with
  | true => rw [List.filter_cons_of_pos h]; simp
  | false => rw [List.filter_cons_of_neg (by rw [h]; decide)]; simp
/-- all turns -/
theorem s_turns (K : cf_K lowCap highCap lowE highE lim powr base slope steep knee) (hpr : ∀ j : Nat, j < 4 → (powr 0).toInt ≤ (powr j).toInt) (hid : ∀ j : Nat, j < 4 → idle j = nI 0) (B : nu_b b) (hb : ∀ o : Nat, o < 7 → (bnd o).toInt = b o) (hr : ∀ o : Nat, o < 6 → (bou o).toInt = b o) (ha : air.toInt = b 6) {wishes qwishes ranks waits : Nat → Int32} (hwi : ∀ j : Nat, j < 4 → wishes j = qwishes j ∧ (wishes j).toInt ≤ 3) :
    ∀ (r k s : Nat) (gra tri gro : Nat → Int32) (σ : (Nat → Int32) × (Nat → Int32) × (Nat → Int64) × (Nat → Int64)), s < 128 → gr_R lowCap highCap lowE highE lim powr base slope steep knee idle wishes b gra σ.1 σ.2.1 →
      gr_R lowCap highCap lowE highE lim powr base slope steep knee idle wishes b (p_grantInTurn_13 wishes ranks waits idle base slope steep knee lowCap highCap lowE highE lim powr bnd r k (nI s) gra tri gro).1 (((fbL (tbR ranks waits) r s).filter (wbR wishes)).foldl (mG air base slope steep knee lowCap highCap lowE highE lim powr bou qwishes) σ).1 (((fbL (tbR ranks waits) r s).filter (wbR wishes)).foldl (mG air base slope steep knee lowCap highCap lowE highE lim powr bou qwishes) σ).2.1 := by
  intro r
  induction r with
  | zero => intro k s gra tri gro σ hs R; exact R
  | succ r ih =>
    intro k s gra tri gro σ hs R
    have ef := c_fb (ranks := ranks) (waits := waits) hs
    have hf4 : fbF (tbR ranks waits) s < 4 := by rw [← ef]; exact firstBut_lt ranks waits (nI s)
    obtain ⟨t1, t2, t3⟩ := jn_tab (fbF (tbR ranks waits) s) (by omega) s hs
    rw [p_grantInTurn_13, ef, t3]
    simp only [ap3, fbL]
    rw [foldl_filter_cons]
    exact ih (k + 1) _ _ _ _ _ t2 (s_turn1 (air := air) K hpr hid B hb hr ha hwi hf4 tri gro σ R)
theorem m_84 {wishes ranks waits : Nat → Int32} {v1 : Int32} {k1 : Nat} (hk1 : k1 < 4) : ∀ (r k : Nat) (σ : (Nat → Int32) × (Nat → Int32) × (Nat → Int64) × (Nat → Int64)), k + r = 4 → p_mPeriod_84 air base slope steep knee lowCap highCap lowE highE lim powr bou wishes ranks waits v1 k1 r k σ.1 σ.2.1 σ.2.2.1 σ.2.2.2 = (or84 (tbR ranks waits) (wbR wishes) k1 r k).foldl (if v1 = 0 then mG air base slope steep knee lowCap highCap lowE highE lim powr bou wishes else mA wishes) σ := by
  intro r
  induction r with
  | zero => intro k σ hk; rfl
  | succ r ih =>
    intro k σ hk
    have hk4 : k < 4 := by omega
    have hw : wbR wishes k = false ↔ wishes k < 0 := by
      unfold wbR
      rw [decide_eq_true hk4]
      simp
    rw [p_mPeriod_84, or84]
    simp only [ap1]
    rw [m_cn95 hk4 4 0 0 rfl]
    by_cases h1 : wishes k < 0
    · rw [if_pos h1, if_pos (hw.mpr h1)]; exact ih _ _ (by omega)
    · rw [if_neg h1, if_neg (fun q => h1 (hw.mp q))]
      have hc := cn95_le (tbR ranks waits) (wbR wishes) k 4 0 0
      by_cases h2 : cn95 (tbR ranks waits) (wbR wishes) k 4 0 0 = k1
      · rw [if_pos (show nI _ = nI k1 by rw [h2]), if_pos h2, List.foldl_cons]
        by_cases hv : v1 = 0
        · rw [if_pos hv, if_pos hv]
          have := ih (k + 1) (mG air base slope steep knee lowCap highCap lowE highE lim powr bou wishes σ k) (by omega)
          rw [if_pos hv] at this
          rw [← this]
          simp only [ap4]
          rfl
        · rw [if_neg hv, if_neg hv]
          have := ih (k + 1) (mA wishes σ k) (by omega)
          rw [if_neg hv] at this
          rw [← this]
          rfl
      · rw [if_neg (fun q => h2 ((nI_eq (by omega) (by omega)).mp q)), if_neg h2]; exact ih _ _ (by omega)
theorem m_77 {wishes ranks waits : Nat → Int32} {v1 : Int32} : ∀ (r k : Nat) (σ : (Nat → Int32) × (Nat → Int32) × (Nat → Int64) × (Nat → Int64)), k + r = 4 → ∃ σ' : (Nat → Int32) × (Nat → Int32) × (Nat → Int64) × (Nat → Int64), σ' = (or77 (tbR ranks waits) (wbR wishes) r k).foldl (if v1 = 0 then mG air base slope steep knee lowCap highCap lowE highE lim powr bou wishes else mA wishes) σ ∧ p_mPeriod_77 air base slope steep knee lowCap highCap lowE highE lim powr bou wishes ranks waits v1 r k σ.1 σ.2.1 σ.2.2.1 σ.2.2.2 = p_mPeriod_199 σ'.1 σ'.2.1 σ'.2.2.1 σ'.2.2.2 4 0 (nI 0) waits wishes := by
  intro r
  induction r with
  | zero => intro k σ hk; exact ⟨σ, rfl, rfl⟩
  | succ r ih =>
    intro k σ hk
    obtain ⟨σ', a1, a2⟩ := ih (k + 1) ((or84 (tbR ranks waits) (wbR wishes) k 4 0).foldl (if v1 = 0 then mG air base slope steep knee lowCap highCap lowE highE lim powr bou wishes else mA wishes) σ) (by omega)
    refine ⟨σ', ?_, ?_⟩
    · rw [a1, or77, List.foldl_append]
    · rw [p_mPeriod_77, m_84 (show k < 4 by omega) 4 0 σ rfl]
      simp only [ap4]
      exact a2
theorem mA_fold (wishes : Nat → Int32) : ∀ (l : List Nat) (σ : (Nat → Int32) × (Nat → Int32) × (Nat → Int64) × (Nat → Int64)), (∀ j : Nat, (l.foldl (mA wishes) σ).1 j = if j ∈ l then wishes j else σ.1 j) ∧ (l.foldl (mA wishes) σ).2.1 = σ.2.1 := by
  intro l
  induction l with
  | nil => intro σ; exact ⟨fun j => by simp, rfl⟩
  | cons c l ih =>
    intro σ
    obtain ⟨a1, a2⟩ := ih (mA wishes σ c)
    refine ⟨fun j => ?_, a2⟩
    rw [List.foldl_cons, a1 j]
    unfold mA
    by_cases h : j ∈ l
    · rw [if_pos h, if_pos (List.mem_cons_of_mem _ h)]
    · rw [if_neg h]
      by_cases e : j = c
      · subst e; rw [if_pos List.mem_cons_self]; exact pk_us
      · rw [if_neg (fun q => by rcases List.mem_cons.mp q with q | q; exact e q; exact h q)]; exact pk_un e
/-- the wishes end -/
theorem s_end {steps st1 tr1 : Nat → Int32} {ne1 pr1 : Nat → Int64} (hs : ∀ j : Nat, j < 4 → steps j = st1 j) : ∀ (r k : Nat) (sh : Int32) (wis wai qwis qwai : Nat → Int32), k + r = 4 → (∀ j : Nat, j < 4 → wis j = qwis j) → (∀ j : Nat, j < 4 → wai j = qwai j) → (∀ j : Nat, j < k → wis j = -1) →
    ∃ (f : Int32) (wis' wai' qwis' qwai' : Nat → Int32), p_endWishes_4 steps r k sh wis wai = (f, wis', wai') ∧ p_mPeriod_199 st1 tr1 ne1 pr1 r k sh qwai qwis = (f, nI 0, st1, qwis', qwai', nI 8, ne1, pr1, tr1) ∧ (∀ j : Nat, j < 4 → wis' j = qwis' j ∧ wis' j = -1) ∧ ∀ j : Nat, j < 4 → wai' j = qwai' j := by
  intro r
  induction r with
  | zero => intro k sh wis wai qwis qwai hk h1 h2 h3; exact ⟨sh, wis, wai, qwis, qwai, rfl, rfl, fun j hj => ⟨h1 j hj, h3 j (by omega)⟩, h2⟩
  | succ r ih =>
    intro k sh wis wai qwis qwai hk h1 h2 h3
    have up : ∀ (f g : Nat → Int32) (x y : Int32), (∀ j : Nat, j < 4 → f j = g j) → x = y → ∀ j : Nat, j < 4 → upd f k x j = upd g k y j := by
      intro f g x y h e j hj
      by_cases e9 : j = k
      · subst e9; rw [pk_us, pk_us, e]
      · rw [pk_un e9, pk_un e9]; exact h j hj
    have h4 : ∀ j : Nat, j < k + 1 → upd wis k (-1) j = -1 := fun j hj => by
      by_cases e9 : j = k
      · subst e9; exact pk_us
      · rw [pk_un e9]; exact h3 j (by omega)
    rw [p_endWishes_4, p_mPeriod_199, ← h1 k (by omega), ← hs k (by omega)]
    by_cases hc : wis k ≤ steps k
    · rw [if_pos hc, if_pos hc]
      exact ih (k + 1) sh _ _ _ _ (by omega) (up _ _ _ _ h1 rfl) (up _ _ _ _ h2 rfl) h4
    · rw [if_neg hc, if_neg hc]
      exact ih (k + 1) _ _ _ _ _ (by omega) (up _ _ _ _ h1 rfl) (up _ _ _ _ h2 (by rw [h2 k (by omega)])) h4
theorem m_27 {wishes ranks waits : Nat → Int32} {nxt prb : Nat → Int64} : ∀ (r k : Nat) (trd sts : Nat → Int32), k + r = 4 → (∀ j : Nat, j < k → trd j = (if wishes j < nI 0 then nI 0 else wishes j) ∧ sts j = nI 0) → ∃ trd' sts' : Nat → Int32, (∀ j : Nat, j < 4 → trd' j = (if wishes j < nI 0 then nI 0 else wishes j) ∧ sts' j = nI 0) ∧
    p_mPeriod_27 air base slope steep knee lowCap highCap lowE highE lim powr bou nxt prb wishes ranks waits r k trd sts = p_mPeriod_27 air base slope steep knee lowCap highCap lowE highE lim powr bou nxt prb wishes ranks waits 0 4 trd' sts' := by
  intro r
  induction r with
  | zero => intro k trd sts hk h; exact ⟨trd, sts, fun j hj => h j (by omega), by rw [show k = 4 by omega]⟩
  | succ r ih =>
    intro k trd sts hk h
    have e0 : (nI 0 : Int32) = 0 := by decide
    rw [p_mPeriod_27]
    by_cases hc : 0 ≤ wishes k
    · rw [if_pos hc]
      refine ih (k + 1) _ _ (by omega) (fun j hj => ?_)
      by_cases e : j = k
      · subst e
        rw [pk_us, pk_us, if_neg (fun q => by rw [e0] at q; have g1 := n_lt.mp q; have g2 := n_le.mp hc; omega)]
        exact ⟨rfl, rfl⟩
      · rw [pk_un e, pk_un e]; exact h j (by omega)
    · rw [if_neg hc]
      refine ih (k + 1) _ _ (by omega) (fun j hj => ?_)
      by_cases e : j = k
      · subst e
        rw [pk_us, pk_us, if_pos (by rw [e0]; exact n_lt.mpr (by have : ¬ (0 : Int32).toInt ≤ (wishes j).toInt := fun q => hc (n_le.mpr q); omega))]
        exact ⟨rfl, rfl⟩
      · rw [pk_un e, pk_un e]; exact h j (by omega)
theorem c_bp2 {steps wishes ranks waits trial grow : Nat → Int32} : ∀ (r k : Nat) (gra : Nat → Int32), k + r = 4 → (∀ j : Nat, j < k → gra j = if wishes j < nI 0 then nI 0 else wishes j) → ∃ gra' : Nat → Int32, (∀ j : Nat, j < 4 → gra' j = if wishes j < nI 0 then nI 0 else wishes j) ∧
    p_beginPeriod_2 steps wishes ranks waits trial idle base slope steep knee lowCap highCap lowE highE lim powr grow bnd r k gra = p_beginPeriod_2 steps wishes ranks waits trial idle base slope steep knee lowCap highCap lowE highE lim powr grow bnd 0 4 gra' := by
  intro r
  induction r with
  | zero => intro k gra hk h; exact ⟨gra, fun j hj => h j (by omega), by rw [show k = 4 by omega]⟩
  | succ r ih =>
    intro k gra hk h
    rw [p_beginPeriod_2]
    refine ih (k + 1) _ (by omega) (fun j hj => ?_)
    by_cases e : j = k
    · subst e; exact pk_us
    · rw [pk_un e]; exact h j (by omega)
theorem tb_congr {ranks waits qranks qwaits : Nat → Int32} (h1 : ∀ j : Nat, j < 4 → ranks j = qranks j) (h2 : ∀ j : Nat, j < 4 → waits j = qwaits j) : tbR qranks qwaits = tbR ranks waits := by
  funext k c
  unfold tbR
  by_cases hk : k < 4
  · by_cases hc : c < 4
    · unfold p_comesBefore
      rw [h1 k hk, h1 c hc, h2 k hk, h2 c hc]
    · simp [hc]
  · simp [hk]
theorem wb_congr {wishes qwishes : Nat → Int32} (h1 : ∀ j : Nat, j < 4 → wishes j = qwishes j) : wbR qwishes = wbR wishes := by
  funext k
  unfold wbR
  by_cases hk : k < 4
  · rw [h1 k hk]
  · simp [hk]
theorem ap1_eq {A Y : Type} (x : A) (f : A → Y) : ap1 x f = f x := rfl
theorem ap4_eq {A B C D Y : Type} (x : A × B × C × D) (f : A → B → C → D → Y) : ap4 x f = f x.1 x.2.1 x.2.2.1 x.2.2.2 := rfl
theorem m_27z {wishes ranks waits trd sts : Nat → Int32} {nxt prb : Nat → Int64} (k : Nat) : p_mPeriod_27 air base slope steep knee lowCap highCap lowE highE lim powr bou nxt prb wishes ranks waits 0 k trd sts = p_mPeriod_77 air base slope steep knee lowCap highCap lowE highE lim powr bou wishes ranks waits (p_mIsSafe air base slope steep knee lowCap highCap lowE highE lim powr bou nxt prb trd).1 4 0 sts (p_mIsSafe air base slope steep knee lowCap highCap lowE highE lim powr bou nxt prb trd).2.2.2 (p_mIsSafe air base slope steep knee lowCap highCap lowE highE lim powr bou nxt prb trd).2.1 (p_mIsSafe air base slope steep knee lowCap highCap lowE highE lim powr bou nxt prb trd).2.2.1 := by
  rw [p_mPeriod_27]
  exact ap4_eq _ _
theorem c_gitz {wishes ranks waits gra trial grow : Nat → Int32} : p_grantInTurn wishes ranks waits gra trial idle base slope steep knee lowCap highCap lowE highE lim powr grow bnd = p_grantInTurn_13 wishes ranks waits idle base slope steep knee lowCap highCap lowE highE lim powr bnd 4 0 (nI 0) (p_fill4 gra (nI 0)) trial grow := by
  rw [p_grantInTurn]
  exact ap1_eq _ _
theorem c_bp2z {steps wishes ranks waits trial grow gra : Nat → Int32} (k : Nat) : p_beginPeriod_2 steps wishes ranks waits trial idle base slope steep knee lowCap highCap lowE highE lim powr grow bnd 0 k gra = if (p_isSafe trial idle base slope steep knee lowCap highCap lowE highE lim powr grow bnd gra).1 = 0 then ((p_endWishes (va_cpy (p_grantInTurn wishes ranks waits gra (p_isSafe trial idle base slope steep knee lowCap highCap lowE highE lim powr grow bnd gra).2.2 idle base slope steep knee lowCap highCap lowE highE lim powr (p_isSafe trial idle base slope steep knee lowCap highCap lowE highE lim powr grow bnd gra).2.1 bnd).1 steps 0 0 4) wishes waits).1, va_cpy (p_grantInTurn wishes ranks waits gra (p_isSafe trial idle base slope steep knee lowCap highCap lowE highE lim powr grow bnd gra).2.2 idle base slope steep knee lowCap highCap lowE highE lim powr (p_isSafe trial idle base slope steep knee lowCap highCap lowE highE lim powr grow bnd gra).2.1 bnd).1 steps 0 0 4, (p_endWishes (va_cpy (p_grantInTurn wishes ranks waits gra (p_isSafe trial idle base slope steep knee lowCap highCap lowE highE lim powr grow bnd gra).2.2 idle base slope steep knee lowCap highCap lowE highE lim powr (p_isSafe trial idle base slope steep knee lowCap highCap lowE highE lim powr grow bnd gra).2.1 bnd).1 steps 0 0 4) wishes waits).2.1, (p_endWishes (va_cpy (p_grantInTurn wishes ranks waits gra (p_isSafe trial idle base slope steep knee lowCap highCap lowE highE lim powr grow bnd gra).2.2 idle base slope steep knee lowCap highCap lowE highE lim powr (p_isSafe trial idle base slope steep knee lowCap highCap lowE highE lim powr grow bnd gra).2.1 bnd).1 steps 0 0 4) wishes waits).2.2, (p_grantInTurn wishes ranks waits gra (p_isSafe trial idle base slope steep knee lowCap highCap lowE highE lim powr grow bnd gra).2.2 idle base slope steep knee lowCap highCap lowE highE lim powr (p_isSafe trial idle base slope steep knee lowCap highCap lowE highE lim powr grow bnd gra).2.1 bnd).1, nI 0, (p_grantInTurn wishes ranks waits gra (p_isSafe trial idle base slope steep knee lowCap highCap lowE highE lim powr grow bnd gra).2.2 idle base slope steep knee lowCap highCap lowE highE lim powr (p_isSafe trial idle base slope steep knee lowCap highCap lowE highE lim powr grow bnd gra).2.1 bnd).2.1, (p_grantInTurn wishes ranks waits gra (p_isSafe trial idle base slope steep knee lowCap highCap lowE highE lim powr grow bnd gra).2.2 idle base slope steep knee lowCap highCap lowE highE lim powr (p_isSafe trial idle base slope steep knee lowCap highCap lowE highE lim powr grow bnd gra).2.1 bnd).2.2) else ((p_endWishes (va_cpy gra steps 0 0 4) wishes waits).1, va_cpy gra steps 0 0 4, (p_endWishes (va_cpy gra steps 0 0 4) wishes waits).2.1, (p_endWishes (va_cpy gra steps 0 0 4) wishes waits).2.2, gra, nI 0, (p_isSafe trial idle base slope steep knee lowCap highCap lowE highE lim powr grow bnd gra).2.2, (p_isSafe trial idle base slope steep knee lowCap highCap lowE highE lim powr grow bnd gra).2.1) := by
  rw [p_beginPeriod_2]
  rfl
/-- a period -/
theorem s_period (K : cf_K lowCap highCap lowE highE lim powr base slope steep knee) (hpr : ∀ j : Nat, j < 4 → (powr 0).toInt ≤ (powr j).toInt) (hid : ∀ j : Nat, j < 4 → idle j = nI 0) (B : nu_b b) (hb : ∀ o : Nat, o < 7 → (bnd o).toInt = b o) (hr : ∀ o : Nat, o < 6 → (bou o).toInt = b o) (ha : air.toInt = b 6)
    {steps wishes ranks waits qwishes qranks qwaits qtried qsteps : Nat → Int32} (hwi : ∀ j : Nat, j < 4 → wishes j = qwishes j ∧ (wishes j).toInt ≤ 3) (hra : ∀ j : Nat, j < 4 → ranks j = qranks j) (hwa : ∀ j : Nat, j < 4 → waits j = qwaits j)
    (hall : mt_ok (nu_F lowCap highCap lowE highE powr base slope steep knee idle) (nu_F lowCap highCap lowE highE powr base slope steep knee idle) (iE lim) 8 b) (grants trial grow : Nat → Int32) (nxt prb : Nat → Int64) :
    ∃ (f : Int32) (steps' wishes' waits' grants' trial' grow' : Nat → Int32) (qsteps' qwishes' qwaits' qtried' : Nat → Int32) (nxt' prb' : Nat → Int64), p_beginPeriod steps wishes ranks waits grants trial idle base slope steep knee lowCap highCap lowE highE lim powr grow bnd = (f, steps', wishes', waits', grants', nI 0, trial', grow') ∧
      p_mPeriod_27 air base slope steep knee lowCap highCap lowE highE lim powr bou nxt prb qwishes qranks qwaits 4 0 qtried qsteps = (f, nI 0, qsteps', qwishes', qwaits', nI 8, nxt', prb', qtried') ∧
      (∀ j : Nat, j < 4 → steps' j = qsteps' j ∧ vp_in (steps' j) 4) ∧ (∀ j : Nat, j < 4 → wishes' j = qwishes' j ∧ wishes' j = -1) ∧ (∀ j : Nat, j < 4 → waits' j = qwaits' j) ∧ (∀ j : Nat, j < 4 → qtried' j = nI 0) ∧ mt_ok (nu_F lowCap highCap lowE highE powr base slope steep knee steps') (nu_F lowCap highCap lowE highE powr base slope steep knee idle) (iE lim) 8 b := by
  obtain ⟨gra, g1, g2⟩ := c_bp2 (steps := steps) (wishes := wishes) (ranks := ranks) (waits := waits) (trial := trial) (grow := grow) (idle := idle) (bnd := bnd) (base := base) (slope := slope) (steep := steep) (knee := knee) (lowCap := lowCap) (highCap := highCap) (lowE := lowE) (highE := highE) (lim := lim) (powr := powr) 4 0 grants rfl (fun j hj => by omega)
  obtain ⟨trd, sts, t1, t2⟩ := m_27 (air := air) (wishes := qwishes) (ranks := qranks) (waits := qwaits) (nxt := nxt) (prb := prb) (bou := bou) (base := base) (slope := slope) (steep := steep) (knee := knee) (lowCap := lowCap) (highCap := highCap) (lowE := lowE) (highE := highE) (lim := lim) (powr := powr) 4 0 qtried qsteps rfl (fun j hj => by omega)
  have e0 : (nI 0).toInt = 0 := by decide
  have hgv : ∀ j : Nat, j < 4 → vp_in (gra j) 4 := fun j hj => by
    rw [g1 j hj]
    by_cases h : wishes j < nI 0
    · rw [if_pos h]; exact vin_0
    · rw [if_neg h]
      refine vp_in_iff.mpr ⟨?_, by have := (hwi j hj).2; omega⟩
      have : ¬ (wishes j).toInt < (nI 0).toInt := fun q => h (n_lt.mpr q)
      rw [e0] at this; omega
  have hgt : ∀ j : Nat, j < 4 → gra j = trd j := fun j hj => by rw [g1 j hj, (t1 j hj).1, (hwi j hj).1]
  obtain ⟨i1, i2, i3⟩ := s_safe (air := air) K hgv hgt hid B hb hr ha trial grow nxt prb
  have hbz := bz_isSafe trial idle base slope steep knee lowCap highCap lowE highE lim powr grow bnd gra
  have hord := or_same ranks waits wishes
  generalize hmv : p_mIsSafe air base slope steep knee lowCap highCap lowE highE lim powr bou nxt prb trd = ms at i1 i3
  obtain ⟨σ', s1, s2⟩ := m_77 (air := air) (bou := bou) (base := base) (slope := slope) (steep := steep) (knee := knee) (lowCap := lowCap) (highCap := highCap) (lowE := lowE) (highE := highE) (lim := lim) (powr := powr) (wishes := qwishes) (ranks := qranks) (waits := qwaits) (v1 := ms.1) 4 0 (sts, ms.2.2.2, ms.2.1, ms.2.2.1) rfl
  rw [tb_congr hra hwa, wb_congr (fun j hj => (hwi j hj).1)] at s1
  have hm : p_mPeriod_27 air base slope steep knee lowCap highCap lowE highE lim powr bou nxt prb qwishes qranks qwaits 4 0 qtried qsteps = p_mPeriod_199 σ'.1 σ'.2.1 σ'.2.2.1 σ'.2.2.2 4 0 (nI 0) qwaits qwishes := by
    rw [t2, m_27z, hmv]
    exact s2
  have hcpy : ∀ (G : Nat → Int32) (j : Nat), j < 4 → va_cpy G steps 0 0 4 j = G j := fun G j hj => by unfold va_cpy; rw [if_pos (by omega)]; simp
  have fin : ∀ (G : Nat → Int32), (∀ j : Nat, j < 4 → G j = σ'.1 j ∧ vp_in (G j) 4) → (∀ j : Nat, j < 4 → σ'.2.1 j = nI 0) → mt_ok (nu_F lowCap highCap lowE highE powr base slope steep knee G) (nu_F lowCap highCap lowE highE powr base slope steep knee idle) (iE lim) 8 b →
      ∃ (f : Int32) (wishes' waits' qwishes' qwaits' : Nat → Int32), p_endWishes (va_cpy G steps 0 0 4) wishes waits = (f, wishes', waits') ∧ p_mPeriod_199 σ'.1 σ'.2.1 σ'.2.2.1 σ'.2.2.2 4 0 (nI 0) qwaits qwishes = (f, nI 0, σ'.1, qwishes', qwaits', nI 8, σ'.2.2.1, σ'.2.2.2, σ'.2.1) ∧ (∀ j : Nat, j < 4 → wishes' j = qwishes' j ∧ wishes' j = -1) ∧ (∀ j : Nat, j < 4 → waits' j = qwaits' j) ∧
        (∀ j : Nat, j < 4 → va_cpy G steps 0 0 4 j = σ'.1 j ∧ vp_in (va_cpy G steps 0 0 4 j) 4) ∧ mt_ok (nu_F lowCap highCap lowE highE powr base slope steep knee (va_cpy G steps 0 0 4)) (nu_F lowCap highCap lowE highE powr base slope steep knee idle) (iE lim) 8 b := by
    intro G h1 h2 h3
    obtain ⟨f, w1, w2, w3, w4, a1, a2, a3, a4⟩ := s_end (steps := va_cpy G steps 0 0 4) (st1 := σ'.1) (tr1 := σ'.2.1) (ne1 := σ'.2.2.1) (pr1 := σ'.2.2.2) (fun j hj => by rw [hcpy G j hj]; exact (h1 j hj).1) 4 0 (nI 0) wishes waits qwishes qwaits rfl (fun j hj => (hwi j hj).1) hwa (fun j hj => by omega)
    refine ⟨f, w1, w2, w3, w4, a1, a2, a3, a4, fun j hj => by rw [hcpy G j hj]; exact h1 j hj, ?_⟩
    rw [nu_F_stp (hcpy G)]
    exact h3
  have hcl : p_beginPeriod steps wishes ranks waits grants trial idle base slope steep knee lowCap highCap lowE highE lim powr grow bnd = p_beginPeriod_2 steps wishes ranks waits trial idle base slope steep knee lowCap highCap lowE highE lim powr grow bnd 0 4 gra := by
    rw [p_beginPeriod]
    exact g2
  rw [hcl, c_bp2z, hm]
  generalize hcs : p_isSafe trial idle base slope steep knee lowCap highCap lowE highE lim powr grow bnd gra = cs at i1 i2 hbz
  by_cases hv : cs.1 = 0
  · rw [if_pos hv]
    have hv' : ms.1 = 0 := i1.symm.trans hv
    rw [if_pos hv', ← hord.1] at s1
    have R0 : gr_R lowCap highCap lowE highE lim powr base slope steep knee idle wishes b (p_fill4 gra (nI 0)) sts ms.2.2.2 := by
      refine ⟨fun j hj => ⟨by rw [fill4_at hj, (t1 j hj).2], by rw [fill4_at hj]; exact vin_0⟩, fun j hj _ => fill4_at hj, i3, ?_⟩
      rw [nu_F_stp (trd := idle) (fun j hj => by rw [fill4_at hj, hid j hj])]
      exact hall
    have R1 := s_turns (air := air) (ranks := ranks) (waits := waits) K hpr hid B hb hr ha hwi 4 0 0 (p_fill4 gra (nI 0)) cs.2.2 cs.2.1 (sts, ms.2.2.2, ms.2.1, ms.2.2.1) (by omega) R0
    rw [← s1, ← c_gitz] at R1
    generalize p_grantInTurn wishes ranks waits gra cs.2.2 idle base slope steep knee lowCap highCap lowE highE lim powr cs.2.1 bnd = gt at R1 ⊢
    obtain ⟨f, w1, w2, w3, w4, a1, a2, a3, a4, a5, a6⟩ := fin _ R1.1 R1.2.2.1 R1.2.2.2
    rw [a1, a2]
    exact ⟨f, _, w1, w2, _, _, _, σ'.1, w3, w4, σ'.2.1, _, _, rfl, rfl, a5, a3, a4, R1.2.2.1, a6⟩
  · rw [if_neg hv]
    have hv' : ¬ ms.1 = 0 := fun q => hv (i1.trans q)
    rw [if_neg hv'] at s1
    obtain ⟨m1, m2⟩ := mA_fold qwishes (or77 (tbR ranks waits) (wbR wishes) 4 0) (sts, ms.2.2.2, ms.2.1, ms.2.2.1)
    rw [← s1] at m1 m2
    have hG : ∀ j : Nat, j < 4 → gra j = σ'.1 j ∧ vp_in (gra j) 4 := fun j hj => by
      refine ⟨?_, hgv j hj⟩
      rw [m1 j, g1 j hj]
      have hw : wbR wishes j = true ↔ ¬ wishes j < nI 0 := by
        unfold wbR
        rw [decide_eq_true hj]
        simp
        exact Iff.rfl
      by_cases h : wishes j < nI 0
      · rw [if_pos h]
        have hn : ¬ j ∈ or77 (tbR ranks waits) (wbR wishes) 4 0 := fun q => by
          rw [← hord.1] at q
          exact hw.mp (List.mem_filter.mp q).2 h
        rw [if_neg hn]
        exact ((t1 j hj).2).symm
      · rw [if_neg h, if_pos (hord.2.1 j hj (hw.mpr h)), (hwi j hj).1]
    obtain ⟨f, w1, w2, w3, w4, a1, a2, a3, a4, a5, a6⟩ := fin gra hG (fun j hj => by rw [m2]; exact i3 j hj) (i2 (by rcases hbz with h | h; exact absurd h hv; exact h))
    rw [a1, a2]
    exact ⟨f, _, w1, w2, _, _, _, σ'.1, w3, w4, σ'.2.1, _, _, rfl, rfl, a5, a3, a4, fun j hj => by rw [m2]; exact i3 j hj, a6⟩
end PD
