/-! a true tick, of the class and of the reference -/
section TT
def cf_T (lowCap highCap truCap lowE highE truE : Nat → Int32) : Prop := (∀ n : Nat, n < 6 → (lowCap n).toInt ≤ (truCap n).toInt ∧ (truCap n).toInt ≤ (highCap n).toInt) ∧ ∀ n o : Nat, n < 7 → o < 7 → (lowE (7 * n + o)).toInt ≤ (truE (7 * n + o)).toInt ∧ (truE (7 * n + o)).toInt ≤ (highE (7 * n + o)).toInt
def nu_dr (steps told powr : Nat → Int32) : Nat → Int := fun n => (p_trueDraw steps told powr n).toInt
def nu_G (truCap truE powr : Nat → Int32) (base slope steep knee : Int32) (steps told : Nat → Int32) : (Nat → Int) → Nat → Int := mt_G (iE truE) (iE truCap) (nu_src (nu_dr steps told powr) base.toInt slope.toInt steep.toInt knee.toInt)
def nu_tf (truE : Nat → Int32) (t : Nat → Int) (n k : Nat) : Int := mt_sum (fun o => iE truE (7 * n + o) * (t o - t n)) k
variable {lowCap highCap truCap lowE highE truE powr : Nat → Int32} {base slope steep knee air : Int32} {steps told bnd : Nat → Int32} {row : Nat → Int64} {t : Nat → Int}
theorem nu_tf_succ (n k : Nat) : nu_tf truE t n (k + 1) = nu_tf truE t n k + (truE (7 * n + k)).toInt * (t k - t n) := rfl
theorem s_drawn (n : Nat) : p_mDrawn powr steps told n = p_trueDraw steps told powr n := by
  unfold p_mDrawn p_trueDraw
  by_cases h : powr (steps n).toNatClampNeg < told n
  · rw [if_pos h, if_pos (n_le.mpr (by have := n_lt.mp h; omega))]
  · rw [if_neg h]
    by_cases h2 : powr (steps n).toNatClampNeg ≤ told n
    · rw [if_pos h2]
      refine n_eq.mpr ?_
      have h3 := n_le.mp h2
      have h4 : ¬ (powr (steps n).toNatClampNeg).toInt < (told n).toInt := fun q => h (n_lt.mpr q)
      omega
    · rw [if_neg h2]
theorem nu_dr_ran (P : cf_P powr) (hst : ∀ j, j < 4 → vp_in (steps j) 4) (hto : ∀ j, j < 4 → 0 ≤ (told j).toInt ∧ (told j).toInt ≤ 1000000) {n : Nat} (hn : n < 4) : 0 ≤ nu_dr steps told powr n ∧ nu_dr steps told powr n ≤ 1000000 ∧ nu_dr steps told powr n ≤ nu_pw powr steps n := by
  have h1 := P _ (vin_lt (hst n hn))
  have h2 := hto n hn
  unfold nu_dr nu_pw p_trueDraw
  by_cases h : powr (steps n).toNatClampNeg < told n
  · rw [if_pos h]; omega
  · rw [if_neg h]
    have : ¬ (powr (steps n).toNatClampNeg).toInt < (told n).toInt := fun q => h (n_lt.mpr q)
    omega
theorem nu_te_ran (E : cf_E lowE highE) (T : cf_T lowCap highCap truCap lowE highE truE) {n o : Nat} (hn : n < 7) (ho : o < 7) : 0 ≤ (truE (7 * n + o)).toInt ∧ (truE (7 * n + o)).toInt ≤ 500 := by
  have h1 := E n o hn ho
  have h2 := T.2 n o hn ho
  omega
theorem nu_tf_ran (E : cf_E lowE highE) (T : cf_T lowCap highCap truCap lowE highE truE) (B : nu_b t) {n : Nat} (hn : n < 7) : ∀ k : Nat, k ≤ 7 → -(25000000 * (k : Int)) ≤ nu_tf truE t n k ∧ nu_tf truE t n k ≤ 25000000 * (k : Int) := by
  intro k
  induction k with
  | zero => intro _; simp [nu_tf, mt_sum]
  | succ k ih =>
    intro hk
    have h1 := ih (by omega)
    have e := nu_te_ran E T hn (show k < 7 by omega)
    have b1 := B k (by omega)
    have b2 := B n hn
    have h2 := nu_mb (e := (truE (7 * n + k)).toInt) (E := 500) (d := t k - t n) (B := 50000) e.1 e.2 (by omega) (by omega)
    rw [nu_tf_succ]
    omega
theorem c_tflow (E : cf_E lowE highE) (T : cf_T lowCap highCap truCap lowE highE truE) (B : nu_b t) (hb : ∀ o : Nat, o < 7 → (bnd o).toInt = t o) {n : Nat} (hn : n < 6) {h0 : Int} (hr0 : 0 ≤ h0) (hr1 : h0 ≤ 11100000) : ∀ (r k : Nat) (heat : Int32), k + r = 7 → heat.toInt = h0 + nu_tf truE t n k → (p_trueTick_36 truE bnd n r k heat).toInt = h0 + nu_tf truE t n 7 := by
  intro r
  induction r with
  | zero =>
    intro k heat hk h
    unfold p_trueTick_36
    rw [h, show k = 7 by omega]
  | succ r ih =>
    intro k heat hk h
    have hk7 : k < 7 := by omega
    have b1 := B k hk7
    have b2 := B n (by omega)
    have hs : (bnd k - bnd n).toInt = t k - t n := by rw [n_sub (by rw [hb k hk7, hb n (by omega)]; omega) (by rw [hb k hk7, hb n (by omega)]; omega), hb k hk7, hb n (by omega)]
    have e := nu_te_ran E T (show n < 7 by omega) hk7
    have hr := nu_tf_ran E T B (show n < 7 by omega) k (by omega)
    have hk8 : (k : Int) ≤ 7 := by omega
    have hw := nu_mb (e := (truE (7 * n + k)).toInt) (E := 500) (d := t k - t n) (B := 50000) e.1 e.2 (by omega) (by omega)
    have hx := nu_tf_succ (truE := truE) (t := t) n k
    have hi : n * 7 + k = 7 * n + k := by omega
    unfold p_trueTick_36
    rw [hi]
    have hm : (truE (7 * n + k) * (bnd k - bnd n)).toInt = (truE (7 * n + k)).toInt * (t k - t n) := by rw [n_mul (by rw [hs]; omega) (by rw [hs]; omega), hs]
    exact ih _ _ (by omega) (by rw [n_add (by rw [hm, h]; omega) (by rw [hm, h]; omega), hm, h, hx]; omega)
theorem m_tflow (E : cf_E lowE highE) (T : cf_T lowCap highCap truCap lowE highE truE) (B : nu_b t) (hb : ∀ o : Nat, o < 6 → (row o).toInt = t o) (ha : air.toInt = t 6) {n : Nat} (hn : n < 6) {h0 : Int} (hr0 : 0 ≤ h0) (hr1 : h0 ≤ 11100000) : ∀ (r k : Nat) (heat : Int64), k + r = 7 → heat.toInt = h0 + nu_tf truE t n k → (p_mTrueTick_38 air truE row n r k heat).toInt = h0 + nu_tf truE t n 7 := by
  intro r
  induction r with
  | zero =>
    intro k heat hk h
    unfold p_mTrueTick_38
    rw [h, show k = 7 by omega]
  | succ r ih =>
    intro k heat hk h
    have hk7 : k < 7 := by omega
    have b1 := B k hk7
    have b2 := B n (by omega)
    have e := nu_te_ran E T (show n < 7 by omega) hk7
    have hr := nu_tf_ran E T B (show n < 7 by omega) k (by omega)
    have hk8 : (k : Int) ≤ 7 := by omega
    have hw := nu_mb (e := (truE (7 * n + k)).toInt) (E := 500) (d := t k - t n) (B := 50000) e.1 e.2 (by omega) (by omega)
    have hx := nu_tf_succ (truE := truE) (t := t) n k
    have hn6 := hb n hn
    have c1 := Int32.toInt_toInt64 (truE (7 * n + k))
    have edge : ∀ d : Int64, d.toInt = t k - t n → (p_mTrueTick_38 air truE row n r (k + 1) (heat + (truE (7 * n + k)).toInt64 * d)).toInt = h0 + nu_tf truE t n 7 := by
      intro d hs
      have hm : ((truE (7 * n + k)).toInt64 * d).toInt = (truE (7 * n + k)).toInt * (t k - t n) := by rw [l_mul (by rw [hs, c1]; omega) (by rw [hs, c1]; omega), hs, c1]
      exact ih _ _ (by omega) (by rw [l_add (by rw [hm, h]; omega) (by rw [hm, h]; omega), hm, h, hx]; omega)
    unfold p_mTrueTick_38
    by_cases h6 : k = 6
    · rw [if_pos h6]
      have c2 := Int32.toInt_toInt64 air
      refine edge _ ?_
      subst h6
      rw [l_sub (by rw [c2, ha, hn6]; omega) (by rw [c2, ha, hn6]; omega), c2, ha, hn6]
    · rw [if_neg h6]
      refine edge _ ?_
      rw [l_sub (by rw [hb k (by omega), hn6]; omega) (by rw [hb k (by omega), hn6]; omega), hb k (by omega), hn6]
def ct (truCap truE powr : Nat → Int32) (base slope steep knee : Int32) (steps told bnd : Nat → Int32) (n : Nat) : Int32 :=
  if 4 ≤ n then p_floorDiv (p_trueTick_36 truE bnd n 7 0 (nI 0)) (truCap n) else p_floorDiv (p_trueTick_36 truE bnd n 7 0 (p_trueDraw steps told powr n + p_leakAt base slope steep knee (bnd n))) (truCap n)
def nu_th (truE powr : Nat → Int32) (base slope steep knee : Int32) (steps told : Nat → Int32) (t : Nat → Int) (n : Nat) : Int := nu_src (nu_dr steps told powr) base.toInt slope.toInt steep.toInt knee.toInt n (t n) + nu_tf truE t n 7
theorem nu_ts_ran (P : cf_P powr) (L : nu_leak base slope steep knee) (hst : ∀ j, j < 4 → vp_in (steps j) 4) (hto : ∀ j, j < 4 → 0 ≤ (told j).toInt ∧ (told j).toInt ≤ 1000000) (B : nu_b t) {n : Nat} (hn : n < 6) : 0 ≤ nu_src (nu_dr steps told powr) base.toInt slope.toInt steep.toInt knee.toInt n (t n) ∧ nu_src (nu_dr steps told powr) base.toInt slope.toInt steep.toInt knee.toInt n (t n) ≤ 11100000 := by
  unfold nu_src
  by_cases h4 : n < 4
  · rw [if_pos h4]
    have h1 := nu_dr_ran P hst hto h4
    have h2 := nu_leak_ran L (B n (by omega)).1 (B n (by omega)).2
    omega
  · rw [if_neg h4]; omega
theorem nu_div_ran {a c B : Int} (hB : 0 ≤ B) (h1 : -B ≤ a) (h2 : a ≤ B) (hc : 1 ≤ c) : -B ≤ a / c ∧ a / c ≤ B := by
  have e1 : B * 1 ≤ B * c := Int.mul_le_mul_of_nonneg_left hc hB
  refine ⟨Int.le_ediv_of_mul_le (by omega) ?_, ?_⟩
  · have : -B * c = -(B * c) := Int.neg_mul ..
    omega
  · have := Int.ediv_lt_of_lt_mul (a := a) (b := B + 1) (c := c) (by omega) (by rw [Int.add_mul]; omega)
    omega
theorem c_tgrow (E : cf_E lowE highE) (C : cf_C lowCap highCap) (T : cf_T lowCap highCap truCap lowE highE truE) (P : cf_P powr) (L : nu_leak base slope steep knee) (hst : ∀ j, j < 4 → vp_in (steps j) 4) (hto : ∀ j, j < 4 → 0 ≤ (told j).toInt ∧ (told j).toInt ≤ 1000000) (B : nu_b t) (hb : ∀ o : Nat, o < 7 → (bnd o).toInt = t o) {n : Nat} (hn : n < 6) :
    (ct truCap truE powr base slope steep knee steps told bnd n).toInt = nu_th truE powr base slope steep knee steps told t n / iE truCap n := by
  have c1 := C n hn
  have c2 := T.1 n hn
  have hs := nu_ts_ran P L hst hto B hn
  unfold ct nu_th
  unfold nu_src at hs ⊢
  by_cases h4 : 4 ≤ n
  · rw [if_neg (show ¬ n < 4 by omega)] at hs ⊢
    rw [if_pos h4, n_fdiv (by omega), c_tflow E T B hb hn (h0 := 0) (by omega) (by omega) 7 0 (nI 0) rfl (by simp [nu_tf, mt_sum]; decide)]
    rfl
  · rw [if_pos (show n < 4 by omega)] at hs ⊢
    have hbn := hb n (by omega)
    have bn := B n (by omega)
    have e1 : (p_leakAt base slope steep knee (bnd n)).toInt = mt_leak base.toInt slope.toInt steep.toInt knee.toInt (t n) := by rw [n_leak L (by rw [hbn]; exact bn.1) (by rw [hbn]; exact bn.2), hbn]
    have hd := nu_dr_ran P hst hto (show n < 4 by omega)
    have hl := nu_leak_ran L bn.1 bn.2
    have hdd : (p_trueDraw steps told powr n).toInt = nu_dr steps told powr n := rfl
    rw [if_neg h4, n_fdiv (by omega), c_tflow E T B hb hn hs.1 hs.2 7 0 _ rfl (by
      rw [n_add (by rw [e1, hdd]; omega) (by rw [e1, hdd]; omega), e1, hdd]
      simp [nu_tf, mt_sum])]
    rfl
theorem c_tt2 : ∀ (r k : Nat) (gro : Nat → Int32), k + r = 6 → (∀ j : Nat, j < k → gro j = ct truCap truE powr base slope steep knee steps told bnd j) →
    ∃ gro' : Nat → Int32, (∀ j : Nat, j < 6 → gro' j = ct truCap truE powr base slope steep knee steps told bnd j) ∧ p_trueTick_2 base slope steep knee truE truCap powr bnd steps told r k gro = (gro', (p_grow gro' bnd).2) := by
  intro r
  induction r with
  | zero =>
    intro k gro hk h
    exact ⟨gro, fun j hj => h j (by omega), rfl⟩
  | succ r ih =>
    intro k gro hk h
    have step : p_trueTick_2 base slope steep knee truE truCap powr bnd steps told (r + 1) k gro = p_trueTick_2 base slope steep knee truE truCap powr bnd steps told r (k + 1) (upd gro k (ct truCap truE powr base slope steep knee steps told bnd k)) := by
      conv => lhs; unfold p_trueTick_2
      unfold ct
      by_cases h4 : 4 ≤ k
      · rw [if_pos h4, if_pos h4]; rfl
      · rw [if_neg h4, if_neg h4]; rfl
    rw [step]
    refine ih (k + 1) _ (by omega) (fun j hj => ?_)
    by_cases e : j = k
    · subst e; exact pk_us
    · rw [pk_un e]; exact h j (by omega)
theorem nu_G_eq {n : Nat} (hn : n < 6) : nu_G truCap truE powr base slope steep knee steps told t n = t n + nu_th truE powr base slope steep knee steps told t n / iE truCap n := by
  unfold nu_G mt_G
  rw [if_pos hn]
  rfl
theorem nu_th_ran (E : cf_E lowE highE) (T : cf_T lowCap highCap truCap lowE highE truE) (P : cf_P powr) (L : nu_leak base slope steep knee) (hst : ∀ j, j < 4 → vp_in (steps j) 4) (hto : ∀ j, j < 4 → 0 ≤ (told j).toInt ∧ (told j).toInt ≤ 1000000) (B : nu_b t) {n : Nat} (hn : n < 6) : -200000000 ≤ nu_th truE powr base slope steep knee steps told t n ∧ nu_th truE powr base slope steep knee steps told t n ≤ 200000000 := by
  have h1 := nu_ts_ran P L hst hto B hn
  have h2 := nu_tf_ran E T B (show n < 7 by omega) 7 (by omega)
  unfold nu_th
  omega
/-- the class's true tick -/
theorem c_ttick (E : cf_E lowE highE) (C : cf_C lowCap highCap) (T : cf_T lowCap highCap truCap lowE highE truE) (P : cf_P powr) (L : nu_leak base slope steep knee) (hst : ∀ j, j < 4 → vp_in (steps j) 4) (hto : ∀ j, j < 4 → 0 ≤ (told j).toInt ∧ (told j).toInt ≤ 1000000) (B : nu_b t) (hb : ∀ o : Nat, o < 7 → (bnd o).toInt = t o) (grow : Nat → Int32) :
    (∀ n : Nat, n < 7 → ((p_trueTick base slope steep knee truE truCap powr grow bnd steps told).2 n).toInt = nu_G truCap truE powr base slope steep knee steps told t n) ∧ (p_trueTick base slope steep knee truE truCap powr grow bnd steps told).2 6 = bnd 6 := by
  obtain ⟨gro', h1, h2⟩ := c_tt2 (truCap := truCap) (truE := truE) (powr := powr) (base := base) (slope := slope) (steep := steep) (knee := knee) (steps := steps) (told := told) (bnd := bnd) 6 0 grow rfl (fun j hj => by omega)
  obtain ⟨g1, g2⟩ := c_grow4 gro' 6 0 (nI 0) bnd rfl (Or.inl (by decide))
  have e : p_trueTick base slope steep knee truE truCap powr grow bnd steps told = (gro', (p_grow gro' bnd).2) := h2
  rw [e]
  have hg : ∀ n : Nat, n < 6 → (gro' n).toInt = nu_th truE powr base slope steep knee steps told t n / iE truCap n := fun n hn => by rw [h1 n hn]; exact c_tgrow E C T P L hst hto B hb hn
  refine ⟨fun n hn => ?_, ?_⟩
  · show ((p_grow_4 gro' 6 0 (nI 0) bnd).2 n).toInt = _
    rw [g1 n]
    by_cases h6 : n < 6
    · have hr := nu_th_ran E T P L hst hto B h6
      have c1 := C n h6
      have c2 := T.1 n h6
      have hr2 := nu_div_ran (c := iE truCap n) (by omega) hr.1 hr.2 (by show 1 ≤ (truCap n).toInt; omega)
      have bn := B n hn
      rw [if_pos ⟨Nat.zero_le _, h6⟩, nu_G_eq h6, n_add (by rw [hg n h6, hb n hn]; omega) (by rw [hg n h6, hb n hn]; omega), hg n h6, hb n hn]
    · rw [if_neg (by omega), hb n hn]
      unfold nu_G mt_G
      rw [if_neg h6]
  · show (p_grow_4 gro' 6 0 (nI 0) bnd).2 6 = _
    rw [g1 6, if_neg (by omega)]
def mtn (air base slope steep knee : Int32) (truCap truE powr : Nat → Int32) (row : Nat → Int64) (steps told : Nat → Int32) (k : Nat) : Int64 :=
  if 4 ≤ k then row k + p_mDown (p_mTrueTick_38 air truE row k 7 0 0) (truCap k).toInt64 else row k + p_mDown (p_mTrueTick_38 air truE row k 7 0 ((p_mDrawn powr steps told k).toInt64 + p_mLeakAt base slope steep knee (row k))) (truCap k).toInt64
theorem m_tt129 (nxt : Nat → Int64) : ∀ (r k : Nat) (wrm : Nat → Int64), k + r = 6 → (∀ j : Nat, j < k → wrm j = nxt j) → ∃ wrm' : Nat → Int64, (∀ j : Nat, j < 6 → wrm' j = nxt j) ∧ p_mTrueTick_129 nxt r k wrm = (wrm', nxt) := by
  intro r
  induction r with
  | zero => intro k wrm hk h; exact ⟨wrm, fun j hj => h j (by omega), rfl⟩
  | succ r ih =>
    intro k wrm hk h
    unfold p_mTrueTick_129
    refine ih (k + 1) _ (by omega) (fun j hj => ?_)
    by_cases e : j = k
    · subst e; exact vl_us
    · rw [vl_un e]; exact h j (by omega)
theorem m_tt2 : ∀ (r k : Nat) (nxt : Nat → Int64), k + r = 6 → (∀ j : Nat, j < k → nxt j = mtn air base slope steep knee truCap truE powr row steps told j) → ∃ nxt' wrm' : Nat → Int64, (∀ j : Nat, j < 6 → wrm' j = mtn air base slope steep knee truCap truE powr row steps told j) ∧ p_mTrueTick_2 air base slope steep knee truCap truE powr row steps told r k nxt = (wrm', nxt') := by
  intro r
  induction r with
  | zero =>
    intro k nxt hk h
    obtain ⟨wrm', q1, q2⟩ := m_tt129 nxt 6 0 row rfl (fun j hj => by omega)
    exact ⟨nxt, wrm', fun j hj => by rw [q1 j hj]; exact h j (by omega), q2⟩
  | succ r ih =>
    intro k nxt hk h
    have step : p_mTrueTick_2 air base slope steep knee truCap truE powr row steps told (r + 1) k nxt = p_mTrueTick_2 air base slope steep knee truCap truE powr row steps told r (k + 1) (vp_updL nxt k (mtn air base slope steep knee truCap truE powr row steps told k)) := by
      conv => lhs; unfold p_mTrueTick_2
      unfold mtn
      by_cases h4 : 4 ≤ k
      · rw [if_pos h4, if_pos h4]; rfl
      · rw [if_neg h4, if_neg h4]; rfl
    rw [step]
    refine ih (k + 1) _ (by omega) (fun j hj => ?_)
    by_cases e : j = k
    · subst e; exact vl_us
    · rw [vl_un e]; exact h j (by omega)
/-- the reference's true tick -/
theorem m_ttick (E : cf_E lowE highE) (C : cf_C lowCap highCap) (T : cf_T lowCap highCap truCap lowE highE truE) (P : cf_P powr) (L : nu_leak base slope steep knee) (hst : ∀ j, j < 4 → vp_in (steps j) 4) (hto : ∀ j, j < 4 → 0 ≤ (told j).toInt ∧ (told j).toInt ≤ 1000000) (B : nu_b t) (hb : ∀ o : Nat, o < 6 → (row o).toInt = t o) (ha : air.toInt = t 6) (nxt : Nat → Int64) :
    ∃ nxt' wrm' : Nat → Int64, p_mTrueTick air base slope steep knee truCap truE powr row nxt steps told = (wrm', nxt') ∧ ∀ n : Nat, n < 6 → (wrm' n).toInt = nu_G truCap truE powr base slope steep knee steps told t n := by
  obtain ⟨nxt', wrm', h1, h2⟩ := m_tt2 (air := air) (base := base) (slope := slope) (steep := steep) (knee := knee) (truCap := truCap) (truE := truE) (powr := powr) (row := row) (steps := steps) (told := told) 6 0 nxt rfl (fun j hj => by omega)
  refine ⟨nxt', wrm', h2, fun n hn => ?_⟩
  rw [h1 n hn, nu_G_eq hn]
  have c1 := C n hn
  have c2 := T.1 n hn
  have hs := nu_ts_ran P L hst hto B hn
  have hr := nu_th_ran E T P L hst hto B hn
  have hr2 := nu_div_ran (c := iE truCap n) (by omega) hr.1 hr.2 (by show 1 ≤ (truCap n).toInt; omega)
  have bn := B n (by omega)
  have hbn := hb n hn
  have k1 := Int32.toInt_toInt64 (truCap n)
  have fin : ∀ heat : Int64, heat.toInt = nu_th truE powr base slope steep knee steps told t n → (row n + p_mDown heat (truCap n).toInt64).toInt = t n + nu_th truE powr base slope steep knee steps told t n / iE truCap n := by
    intro heat hh
    have e : (p_mDown heat (truCap n).toInt64).toInt = nu_th truE powr base slope steep knee steps told t n / iE truCap n := by rw [l_down (by rw [k1]; omega) (by rw [hh]; omega) (by rw [hh]; omega), hh, k1]; rfl
    rw [l_add (by rw [e, hbn]; omega) (by rw [e, hbn]; omega), e, hbn]
  unfold mtn
  unfold nu_src at hs
  by_cases h4 : 4 ≤ n
  · rw [if_neg (show ¬ n < 4 by omega)] at hs
    rw [if_pos h4]
    refine fin _ ?_
    rw [m_tflow E T B hb ha hn (h0 := 0) (by omega) (by omega) 7 0 0 rfl (by simp [nu_tf, mt_sum])]
    unfold nu_th nu_src
    rw [if_neg (show ¬ n < 4 by omega)]
  · rw [if_pos (show n < 4 by omega)] at hs
    rw [if_neg h4]
    refine fin _ ?_
    have e1 : (p_mLeakAt base slope steep knee (row n)).toInt = mt_leak base.toInt slope.toInt steep.toInt knee.toInt (t n) := by rw [l_leak L (by rw [hbn]; exact bn.1) (by rw [hbn]; exact bn.2), hbn]
    have hd := nu_dr_ran P hst hto (show n < 4 by omega)
    have hl := nu_leak_ran L bn.1 bn.2
    have k2 : (p_mDrawn powr steps told n).toInt64.toInt = nu_dr steps told powr n := by rw [Int32.toInt_toInt64, s_drawn]; rfl
    rw [m_tflow E T B hb ha hn hs.1 hs.2 7 0 _ rfl (by
      rw [l_add (by rw [k2, e1]; omega) (by rw [k2, e1]; omega), k2, e1]
      simp [nu_tf, mt_sum])]
    unfold nu_th nu_src
    rw [if_pos (show n < 4 by omega)]
end TT
