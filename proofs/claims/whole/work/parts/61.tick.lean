/-! a bound tick, of the class and of the reference: one mathematical tick -/
section TK
def cf_E (lowE highE : Nat → Int32) : Prop := ∀ n o : Nat, n < 7 → o < 7 → 0 ≤ (lowE (7 * n + o)).toInt ∧ (lowE (7 * n + o)).toInt ≤ (highE (7 * n + o)).toInt ∧ (highE (7 * n + o)).toInt ≤ 500
def cf_C (lowCap highCap : Nat → Int32) : Prop := ∀ n : Nat, n < 6 → 1 ≤ (lowCap n).toInt ∧ (lowCap n).toInt ≤ (highCap n).toInt ∧ (highCap n).toInt ≤ 10000
def cf_P (powr : Nat → Int32) : Prop := ∀ j : Nat, j < 4 → 0 ≤ (powr j).toInt ∧ (powr j).toInt ≤ 1000000
def iE (f : Nat → Int32) : Nat → Int := fun j => (f j).toInt
def nu_src (P : Nat → Int) (b s st k : Int) (n : Nat) (t : Int) : Int := if n < 4 then P n + mt_leak b s st k t else 0
def nu_pw (powr stp : Nat → Int32) : Nat → Int := fun n => (powr (stp n).toNatClampNeg).toInt
def nu_F (lowCap highCap lowE highE powr : Nat → Int32) (base slope steep knee : Int32) (stp : Nat → Int32) : (Nat → Int) → Nat → Int := mt_F (iE highE) (iE lowE) (iE lowCap) (iE highCap) (nu_src (nu_pw powr stp) base.toInt slope.toInt steep.toInt knee.toInt)
def nu_b (b : Nat → Int) : Prop := ∀ o : Nat, o < 7 → 0 ≤ b o ∧ b o ≤ 50000
variable {lowCap highCap lowE highE powr : Nat → Int32} {base slope steep knee : Int32} {stp bnd : Nat → Int32} {b : Nat → Int}
theorem mt_g_abs {a lo hi B : Int} (hB : 0 ≤ B) (h1 : -B ≤ a) (h2 : a ≤ B) (hlo : 1 ≤ lo) (hhi : 1 ≤ hi) : -B ≤ mt_g a lo hi ∧ mt_g a lo hi ≤ B := by
  have key : ∀ c : Int, 1 ≤ c → -B ≤ mt_up a c ∧ mt_up a c ≤ B := by
    intro c hc
    have e1 : B * 1 ≤ B * c := Int.mul_le_mul_of_nonneg_left hc hB
    refine ⟨mt_le_up (by omega) ?_, mt_up_le (by omega) (by omega)⟩
    have e2 : (-B - 1) * c ≤ (-B - 1) * 1 := Int.mul_le_mul_of_nonpos_left (by omega) hc
    omega
  by_cases h : 0 < a
  · rw [mt_g_pos h]; exact key lo hlo
  · rw [mt_g_neg h]; exact key hi hhi
theorem nu_w_ran {h l d : Int} (h0 : 0 ≤ l) (h1 : l ≤ h) (h2 : h ≤ 500) (d1 : -50000 ≤ d) (d2 : d ≤ 50000) : -25000000 ≤ mt_w h l d ∧ mt_w h l d ≤ 25000000 := by
  unfold mt_w
  by_cases hd : 0 < d
  · rw [if_pos hd]
    have := nu_mb (e := h) (E := 500) (d := d) (B := 50000) (by omega) h2 d1 d2
    omega
  · rw [if_neg hd]
    have := nu_mb (e := l) (E := 500) (d := d) (B := 50000) h0 (by omega) d1 d2
    omega
/-- what flows over the edges to node n, the first k of them -/
def nu_fl (lowE highE : Nat → Int32) (b : Nat → Int) (n k : Nat) : Int := mt_sum (fun o => mt_w (iE highE (7 * n + o)) (iE lowE (7 * n + o)) (b o - b n)) k
theorem nu_fl_succ (n k : Nat) : nu_fl lowE highE b n (k + 1) = nu_fl lowE highE b n k + mt_w (highE (7 * n + k)).toInt (lowE (7 * n + k)).toInt (b k - b n) := rfl
theorem nu_fl_ran (E : cf_E lowE highE) (B : nu_b b) {n : Nat} (hn : n < 7) : ∀ k : Nat, k ≤ 7 → -(25000000 * (k : Int)) ≤ nu_fl lowE highE b n k ∧ nu_fl lowE highE b n k ≤ 25000000 * (k : Int) := by
  intro k
  induction k with
  | zero => intro _; simp [nu_fl, mt_sum]
  | succ k ih =>
    intro hk
    have h1 := ih (by omega)
    obtain ⟨e1, e2, e3⟩ := E n k hn (by omega)
    have b1 := B k (by omega)
    have b2 := B n hn
    have h2 := nu_w_ran e1 e2 e3 (show -50000 ≤ b k - b n by omega) (by omega)
    rw [nu_fl_succ]
    omega
theorem c_inflow (E : cf_E lowE highE) (B : nu_b b) (hb : ∀ o : Nat, o < 7 → (bnd o).toInt = b o) {n : Nat} (hn : n < 6) : ∀ (r k : Nat) (inflow : Int32), k + r = 7 → inflow.toInt = nu_fl lowE highE b n k → (p_worstInflow_12 lowE highE bnd n r k inflow).toInt = nu_fl lowE highE b n 7 := by
  intro r
  induction r with
  | zero =>
    intro k inflow hk h
    unfold p_worstInflow_12
    rw [h, show k = 7 by omega]
  | succ r ih =>
    intro k inflow hk h
    have hk7 : k < 7 := by omega
    have hs : (bnd k - bnd n).toInt = b k - b n := by
      have b1 := B k hk7
      have b2 := B n (by omega)
      rw [n_sub (by rw [hb k hk7, hb n (by omega)]; omega) (by rw [hb k hk7, hb n (by omega)]; omega), hb k hk7, hb n (by omega)]
    obtain ⟨e1, e2, e3⟩ := E n k (by omega) hk7
    have b1 := B k hk7
    have b2 := B n (by omega)
    have hr := nu_fl_ran E B (show n < 7 by omega) k (by omega)
    have hk8 : (k : Int) ≤ 7 := by omega
    have hw := nu_w_ran e1 e2 e3 (show -50000 ≤ b k - b n by omega) (by omega)
    have hx := nu_fl_succ (lowE := lowE) (highE := highE) (b := b) n k
    have hi : n * 7 + 0 + k = 7 * n + k := by omega
    unfold p_worstInflow_12
    rw [hi]
    unfold mt_w at hw hx
    by_cases hd : bnd k - bnd n ≤ 0
    · have hd' := n_le.mp hd
      rw [hs, n_0] at hd'
      rw [if_neg (by omega)] at hw hx
      have hm : (lowE (7 * n + k) * (bnd k - bnd n)).toInt = (lowE (7 * n + k)).toInt * (b k - b n) := by rw [n_mul (by rw [hs]; omega) (by rw [hs]; omega), hs]
      rw [if_pos hd]
      exact ih _ _ (by omega) (by rw [n_add (by rw [hm, h]; omega) (by rw [hm, h]; omega), hm, h, hx])
    · have hd' : ¬ b k - b n ≤ 0 := fun q => hd (n_le.mpr (by rw [hs, n_0]; exact q))
      rw [if_pos (by omega)] at hw hx
      have hm : (highE (7 * n + k) * (bnd k - bnd n)).toInt = (highE (7 * n + k)).toInt * (b k - b n) := by rw [n_mul (by rw [hs]; omega) (by rw [hs]; omega), hs]
      rw [if_neg hd]
      exact ih _ _ (by omega) (by rw [n_add (by rw [hm, h]; omega) (by rw [hm, h]; omega), hm, h, hx])
/-- the class's growth of node n -/
def cg (lowCap highCap lowE highE powr : Nat → Int32) (base slope steep knee : Int32) (stp bnd : Nat → Int32) (n : Nat) : Int32 :=
  if 4 ≤ n then p_worstGrowth lowCap highCap n (nI 0 + p_worstInflow lowE highE bnd n) else p_worstGrowth lowCap highCap n ((powr (stp n).toNatClampNeg + p_leakAt base slope steep knee (bnd n)) + p_worstInflow lowE highE bnd n)
theorem vin_lt {x : Int32} (h : vp_in x 4) : x.toNatClampNeg < 4 := Nat.not_le.mp fun q => h (Or.inr q)
/-- the heat of node n -/
def nu_heat (lowE highE powr : Nat → Int32) (base slope steep knee : Int32) (stp : Nat → Int32) (b : Nat → Int) (n : Nat) : Int := mt_heat (iE highE) (iE lowE) (nu_src (nu_pw powr stp) base.toInt slope.toInt steep.toInt knee.toInt) b n
theorem nu_heat_eq (n : Nat) : nu_heat lowE highE powr base slope steep knee stp b n = nu_src (nu_pw powr stp) base.toInt slope.toInt steep.toInt knee.toInt n (b n) + nu_fl lowE highE b n 7 := rfl
theorem nu_src_ran (P : cf_P powr) (L : nu_leak base slope steep knee) (hst : ∀ j, j < 4 → vp_in (stp j) 4) (B : nu_b b) {n : Nat} (hn : n < 6) : 0 ≤ nu_src (nu_pw powr stp) base.toInt slope.toInt steep.toInt knee.toInt n (b n) ∧ nu_src (nu_pw powr stp) base.toInt slope.toInt steep.toInt knee.toInt n (b n) ≤ 11100000 := by
  unfold nu_src
  by_cases h4 : n < 4
  · rw [if_pos h4]
    have h1 := P _ (vin_lt (hst n h4))
    have h2 := nu_leak_ran L (B n (by omega)).1 (B n (by omega)).2
    unfold nu_pw
    omega
  · rw [if_neg h4]; omega
theorem nu_heat_ran (E : cf_E lowE highE) (P : cf_P powr) (L : nu_leak base slope steep knee) (hst : ∀ j, j < 4 → vp_in (stp j) 4) (B : nu_b b) {n : Nat} (hn : n < 6) : -200000000 ≤ nu_heat lowE highE powr base slope steep knee stp b n ∧ nu_heat lowE highE powr base slope steep knee stp b n ≤ 200000000 := by
  have h1 := nu_src_ran P L hst B hn
  have h2 := nu_fl_ran E B (show n < 7 by omega) 7 (by omega)
  rw [nu_heat_eq]
  omega
theorem c_growth (E : cf_E lowE highE) (C : cf_C lowCap highCap) (P : cf_P powr) (L : nu_leak base slope steep knee) (hst : ∀ j, j < 4 → vp_in (stp j) 4) (B : nu_b b) (hb : ∀ o : Nat, o < 7 → (bnd o).toInt = b o) {n : Nat} (hn : n < 6) :
    (cg lowCap highCap lowE highE powr base slope steep knee stp bnd n).toInt = mt_g (nu_heat lowE highE powr base slope steep knee stp b n) (iE lowCap n) (iE highCap n) := by
  obtain ⟨c1, c2, c3⟩ := C n hn
  have hf : (p_worstInflow lowE highE bnd n).toInt = nu_fl lowE highE b n 7 := c_inflow E B hb hn 7 0 (nI 0) rfl (by simp [nu_fl, mt_sum]; decide)
  have hfr := nu_fl_ran E B (show n < 7 by omega) 7 (by omega)
  have hh := nu_heat_ran E P L hst B hn
  have hsr := nu_src_ran P L hst B hn
  rw [nu_heat_eq] at hh ⊢
  unfold cg
  unfold nu_src at hh hsr ⊢
  by_cases h4 : 4 ≤ n
  · rw [if_neg (show ¬ n < 4 by omega)] at hh hsr ⊢
    rw [if_pos h4]
    have e0 : (nI 0).toInt = 0 := by decide
    have e : (nI 0 + p_worstInflow lowE highE bnd n).toInt = 0 + nu_fl lowE highE b n 7 := by rw [n_add (by rw [e0, hf]; omega) (by rw [e0, hf]; omega), e0, hf]
    rw [n_wg (by omega) (by omega) (by rw [e]; omega), e]
    rfl
  · rw [if_pos (show n < 4 by omega)] at hh hsr ⊢
    rw [if_neg h4]
    have hbn := hb n (by omega)
    have bn := B n (by omega)
    have e1 : (p_leakAt base slope steep knee (bnd n)).toInt = mt_leak base.toInt slope.toInt steep.toInt knee.toInt (b n) := by rw [n_leak L (by rw [hbn]; exact bn.1) (by rw [hbn]; exact bn.2), hbn]
    have hp := P _ (vin_lt (hst n (by omega)))
    have hl := nu_leak_ran L bn.1 bn.2
    have e2 : (powr (stp n).toNatClampNeg + p_leakAt base slope steep knee (bnd n)).toInt = nu_pw powr stp n + mt_leak base.toInt slope.toInt steep.toInt knee.toInt (b n) := by
      rw [n_add (by rw [e1]; omega) (by rw [e1]; omega), e1]; rfl
    have e : (powr (stp n).toNatClampNeg + p_leakAt base slope steep knee (bnd n) + p_worstInflow lowE highE bnd n).toInt = nu_pw powr stp n + mt_leak base.toInt slope.toInt steep.toInt knee.toInt (b n) + nu_fl lowE highE b n 7 := by
      rw [n_add (by rw [e2, hf]; omega) (by rw [e2, hf]; omega), e2, hf]
    rw [n_wg (by omega) (by omega) (by rw [e]; omega), e]
    rfl
theorem c_grow4 (grow : Nat → Int32) : ∀ (r k : Nat) (grew : Int32) (tmp : Nat → Int32), k + r = 6 → (grew = 0 ∨ grew = 1) →
    (∀ j : Nat, (p_grow_4 grow r k grew tmp).2 j = if k ≤ j ∧ j < 6 then tmp j + grow j else tmp j) ∧ ((p_grow_4 grow r k grew tmp).1 = 0 ↔ grew = 0 ∧ ∀ j : Nat, k ≤ j → j < 6 → grow j ≤ 0) := by
  intro r
  induction r with
  | zero =>
    intro k grew tmp hk _
    unfold p_grow_4
    refine ⟨fun j => ?_, ⟨fun h => ⟨h, fun j h1 h2 => by omega⟩, fun h => h.1⟩⟩
    rw [if_neg (by omega)]
  | succ r ih =>
    intro k grew tmp hk hg
    unfold p_grow_4
    have g0 : grew ||| nI 0 = grew := by rcases hg with rfl | rfl <;> decide
    have g1 : grew ||| nI 1 = 1 := by rcases hg with rfl | rfl <;> decide
    have hj : ∀ (T : Nat → Int32), (∀ j : Nat, T j = if k + 1 ≤ j ∧ j < 6 then (upd tmp k (tmp k + grow k)) j + grow j else (upd tmp k (tmp k + grow k)) j) → ∀ j : Nat, T j = if k ≤ j ∧ j < 6 then tmp j + grow j else tmp j := by
      intro T hT j
      rw [hT j]
      by_cases e : j = k
      · subst e
        rw [if_neg (by omega), if_pos (by omega), pk_us]
      · rw [pk_un e]
        by_cases h1 : k + 1 ≤ j ∧ j < 6
        · rw [if_pos h1, if_pos (by omega)]
        · rw [if_neg h1, if_neg (by omega)]
    by_cases h : grow k ≤ 0
    · rw [if_pos h, g0]
      obtain ⟨i1, i2⟩ := ih (k + 1) grew (upd tmp k (tmp k + grow k)) (by omega) hg
      refine ⟨hj _ i1, i2.trans ⟨fun q => ⟨q.1, fun j h1 h2 => ?_⟩, fun q => ⟨q.1, fun j h1 h2 => q.2 j (by omega) h2⟩⟩⟩
      by_cases e : j = k
      · subst e; exact h
      · exact q.2 j (by omega) h2
    · rw [if_neg h, g1]
      obtain ⟨i1, i2⟩ := ih (k + 1) 1 (upd tmp k (tmp k + grow k)) (by omega) (Or.inr rfl)
      refine ⟨hj _ i1, i2.trans ⟨fun q => absurd q.1 (by decide), fun q => absurd (q.2 k (Nat.le_refl k) (by omega)) h⟩⟩
theorem c_bt2 : ∀ (r k : Nat) (gro : Nat → Int32), k + r = 6 → (∀ j : Nat, j < k → gro j = cg lowCap highCap lowE highE powr base slope steep knee stp bnd j) →
    ∃ gro' : Nat → Int32, (∀ j : Nat, j < 6 → gro' j = cg lowCap highCap lowE highE powr base slope steep knee stp bnd j) ∧ p_boundTick_2 base slope steep knee lowCap highCap lowE highE powr bnd stp r k gro = ((p_grow gro' bnd).1, gro', (p_grow gro' bnd).2) := by
  intro r
  induction r with
  | zero =>
    intro k gro hk h
    exact ⟨gro, fun j hj => h j (by omega), rfl⟩
  | succ r ih =>
    intro k gro hk h
    have step : p_boundTick_2 base slope steep knee lowCap highCap lowE highE powr bnd stp (r + 1) k gro = p_boundTick_2 base slope steep knee lowCap highCap lowE highE powr bnd stp r (k + 1) (upd gro k (cg lowCap highCap lowE highE powr base slope steep knee stp bnd k)) := by
      conv => lhs; unfold p_boundTick_2
      unfold cg
      by_cases h4 : 4 ≤ k
      · rw [if_pos h4, if_pos h4]
      · rw [if_neg h4, if_neg h4]
    rw [step]
    refine ih (k + 1) _ (by omega) (fun j hj => ?_)
    by_cases e : j = k
    · subst e; exact pk_us
    · rw [pk_un e]; exact h j (by omega)
theorem nu_F_eq {n : Nat} (hn : n < 6) : nu_F lowCap highCap lowE highE powr base slope steep knee stp b n = b n + mt_g (nu_heat lowE highE powr base slope steep knee stp b n) (iE lowCap n) (iE highCap n) := by
  unfold nu_F mt_F
  rw [if_pos hn]
  rfl
theorem nu_F_ran (E : cf_E lowE highE) (C : cf_C lowCap highCap) (P : cf_P powr) (L : nu_leak base slope steep knee) (hst : ∀ j, j < 4 → vp_in (stp j) 4) (B : nu_b b) {n : Nat} (hn : n < 6) : -200000000 ≤ mt_g (nu_heat lowE highE powr base slope steep knee stp b n) (iE lowCap n) (iE highCap n) ∧ mt_g (nu_heat lowE highE powr base slope steep knee stp b n) (iE lowCap n) (iE highCap n) ≤ 200000000 := by
  have h := nu_heat_ran E P L hst B hn
  have c := C n hn
  exact mt_g_abs (by omega) h.1 h.2 (by show 1 ≤ (lowCap n).toInt; omega) (by show 1 ≤ (highCap n).toInt; omega)
/-- the class's bound tick -/
theorem c_btick (E : cf_E lowE highE) (C : cf_C lowCap highCap) (P : cf_P powr) (L : nu_leak base slope steep knee) (hst : ∀ j, j < 4 → vp_in (stp j) 4) (B : nu_b b) (hb : ∀ o : Nat, o < 7 → (bnd o).toInt = b o) (grow : Nat → Int32) :
    (∀ n : Nat, n < 7 → ((p_boundTick base slope steep knee lowCap highCap lowE highE powr grow bnd stp).2.2 n).toInt = nu_F lowCap highCap lowE highE powr base slope steep knee stp b n) ∧ (p_boundTick base slope steep knee lowCap highCap lowE highE powr grow bnd stp).2.2 6 = bnd 6 ∧
      ((p_boundTick base slope steep knee lowCap highCap lowE highE powr grow bnd stp).1 = 0 ↔ ∀ n : Nat, n < 6 → nu_F lowCap highCap lowE highE powr base slope steep knee stp b n ≤ b n) := by
  obtain ⟨gro', h1, h2⟩ := c_bt2 (lowCap := lowCap) (highCap := highCap) (lowE := lowE) (highE := highE) (powr := powr) (base := base) (slope := slope) (steep := steep) (knee := knee) (stp := stp) (bnd := bnd) 6 0 grow rfl (fun j hj => by omega)
  obtain ⟨g1, g2⟩ := c_grow4 gro' 6 0 (nI 0) bnd rfl (Or.inl (by decide))
  have e : p_boundTick base slope steep knee lowCap highCap lowE highE powr grow bnd stp = ((p_grow gro' bnd).1, gro', (p_grow gro' bnd).2) := h2
  rw [e]
  have hg : ∀ n : Nat, n < 6 → (gro' n).toInt = mt_g (nu_heat lowE highE powr base slope steep knee stp b n) (iE lowCap n) (iE highCap n) := fun n hn => by rw [h1 n hn]; exact c_growth E C P L hst B hb hn
  refine ⟨fun n hn => ?_, ?_, ?_⟩
  · show ((p_grow_4 gro' 6 0 (nI 0) bnd).2 n).toInt = _
    rw [g1 n]
    by_cases h6 : n < 6
    · have hr := nu_F_ran E C P L hst B h6
      have bn := B n hn
      rw [if_pos ⟨Nat.zero_le _, h6⟩, nu_F_eq h6, n_add (by rw [hg n h6, hb n hn]; omega) (by rw [hg n h6, hb n hn]; omega), hg n h6, hb n hn]
    · rw [if_neg (by omega), hb n hn]
      unfold nu_F
      rw [mt_F_air n h6]
  · show (p_grow_4 gro' 6 0 (nI 0) bnd).2 6 = _
    rw [g1 6, if_neg (by omega)]
  · show (p_grow_4 gro' 6 0 (nI 0) bnd).1 = 0 ↔ _
    rw [g2]
    constructor
    · intro q n hn
      have := n_le.mp (q.2 n (Nat.zero_le _) hn)
      rw [hg n hn, n_0] at this
      rw [nu_F_eq hn]
      omega
    · intro q
      refine ⟨by decide, fun j _ hj => n_le.mpr ?_⟩
      have := q j hj
      rw [nu_F_eq hj] at this
      rw [hg j hj, n_0]
      omega
end TK
section TM
variable {lowCap highCap lowE highE powr : Nat → Int32} {base slope steep knee air : Int32} {stp : Nat → Int32} {row : Nat → Int64} {b : Nat → Int}
theorem vl_us {f : Nat → Int64} {k : Nat} {x : Int64} : vp_updL f k x k = x := if_pos rfl
theorem vl_un {f : Nat → Int64} {k j : Nat} {x : Int64} (h : j ≠ k) : vp_updL f k x j = f j := if_neg h
theorem m_inflow (E : cf_E lowE highE) (B : nu_b b) (hb : ∀ o : Nat, o < 6 → (row o).toInt = b o) (ha : air.toInt = b 6) {n : Nat} (hn : n < 6) {h0 : Int} (hr0 : 0 ≤ h0) (hr1 : h0 ≤ 11100000) : ∀ (r k : Nat) (heat : Int64), k + r = 7 → heat.toInt = h0 + nu_fl lowE highE b n k → (p_mBoundTick_46 air lowE highE row n r k heat).toInt = h0 + nu_fl lowE highE b n 7 := by
  intro r
  induction r with
  | zero =>
    intro k heat hk h
    unfold p_mBoundTick_46
    rw [h, show k = 7 by omega]
  | succ r ih =>
    intro k heat hk h
    have hk7 : k < 7 := by omega
    obtain ⟨e1, e2, e3⟩ := E n k (by omega) hk7
    have b1 := B k hk7
    have b2 := B n (by omega)
    have hr := nu_fl_ran E B (show n < 7 by omega) k (by omega)
    have hk8 : (k : Int) ≤ 7 := by omega
    have hw := nu_w_ran e1 e2 e3 (show -50000 ≤ b k - b n by omega) (by omega)
    have hx := nu_fl_succ (lowE := lowE) (highE := highE) (b := b) n k
    have hn6 := hb n hn
    -- one edge
    have edge : ∀ d : Int64, d.toInt = b k - b n → (p_mBoundTick_46 air lowE highE row n r (k + 1) (if lg_cmp d 0 ≤ 0 then heat + (lowE (7 * n + k)).toInt64 * d else heat + (highE (7 * n + k)).toInt64 * d)).toInt = h0 + nu_fl lowE highE b n 7 := by
      intro d hs
      unfold mt_w at hw hx
      by_cases hd : lg_cmp d 0 ≤ 0
      · have hd' := l_le.mp ((lg_cmp_le _ _).mp hd)
        rw [hs, l_0] at hd'
        rw [if_neg (by omega)] at hw hx
        have c1 := Int32.toInt_toInt64 (lowE (7 * n + k))
        have hm : ((lowE (7 * n + k)).toInt64 * d).toInt = (lowE (7 * n + k)).toInt * (b k - b n) := by rw [l_mul (by rw [hs, c1]; omega) (by rw [hs, c1]; omega), hs, c1]
        rw [if_pos hd]
        exact ih _ _ (by omega) (by rw [l_add (by rw [hm, h]; omega) (by rw [hm, h]; omega), hm, h, hx]; omega)
      · have hd' : ¬ b k - b n ≤ 0 := fun q => hd ((lg_cmp_le _ _).mpr (l_le.mpr (by rw [hs, l_0]; exact q)))
        rw [if_pos (by omega)] at hw hx
        have c1 := Int32.toInt_toInt64 (highE (7 * n + k))
        have hm : ((highE (7 * n + k)).toInt64 * d).toInt = (highE (7 * n + k)).toInt * (b k - b n) := by rw [l_mul (by rw [hs, c1]; omega) (by rw [hs, c1]; omega), hs, c1]
        rw [if_neg hd]
        exact ih _ _ (by omega) (by rw [l_add (by rw [hm, h]; omega) (by rw [hm, h]; omega), hm, h, hx]; omega)
    unfold p_mBoundTick_46
    by_cases h6 : k = 6
    · rw [if_pos h6]
      have c1 := Int32.toInt_toInt64 air
      have hs : (air.toInt64 - row n).toInt = b k - b n := by
        subst h6
        rw [l_sub (by rw [c1, ha, hn6]; omega) (by rw [c1, ha, hn6]; omega), c1, ha, hn6]
      have := edge _ hs
      by_cases hd : lg_cmp (air.toInt64 - row n) 0 ≤ 0
      · rw [if_pos hd] at this ⊢; exact this
      · rw [if_neg hd] at this ⊢; exact this
    · rw [if_neg h6]
      have hs : (row k - row n).toInt = b k - b n := by rw [l_sub (by rw [hb k (by omega), hn6]; omega) (by rw [hb k (by omega), hn6]; omega), hb k (by omega), hn6]
      have := edge _ hs
      by_cases hd : lg_cmp (row k - row n) 0 ≤ 0
      · rw [if_pos hd] at this ⊢; exact this
      · rw [if_neg hd] at this ⊢; exact this
def m_heat (air base slope steep knee : Int32) (lowE highE powr : Nat → Int32) (row : Nat → Int64) (stp : Nat → Int32) (k : Nat) : Int64 := if 4 ≤ k then p_mBoundTick_46 air lowE highE row k 7 0 0 else p_mBoundTick_46 air lowE highE row k 7 0 ((powr (stp k).toNatClampNeg).toInt64 + p_mLeakAt base slope steep knee (row k))
def m_new (air base slope steep knee : Int32) (lowCap highCap lowE highE powr : Nat → Int32) (row : Nat → Int64) (stp : Nat → Int32) (k : Nat) : Int64 :=
  if lg_cmp (m_heat air base slope steep knee lowE highE powr row stp k) 0 ≤ 0 then row k + p_mUp (m_heat air base slope steep knee lowE highE powr row stp k) (highCap k).toInt64 else row k + p_mUp (m_heat air base slope steep knee lowE highE powr row stp k) (lowCap k).toInt64
def m_gr (grew : Int32) (x y : Int64) : Int32 := if grew = 0 then (if lg_cmp x y ≤ 0 then nI 0 else nI 1) else nI 1
theorem m_bt5 (r k : Nat) (grew : Int32) (nxt : Nat → Int64) : p_mBoundTick_5 air base slope steep knee lowCap highCap lowE highE powr row stp (r + 1) k grew nxt = p_mBoundTick_5 air base slope steep knee lowCap highCap lowE highE powr row stp r (k + 1) (m_gr grew (m_new air base slope steep knee lowCap highCap lowE highE powr row stp k) (row k)) (vp_updL nxt k (m_new air base slope steep knee lowCap highCap lowE highE powr row stp k)) := by
  conv => lhs; unfold p_mBoundTick_5
  unfold m_gr m_new m_heat
  by_cases h4 : 4 ≤ k
  · simp only [h4, if_true, ap1, vl_us]
    generalize p_mBoundTick_46 air lowE highE row k 7 0 0 = heat
    by_cases hh : lg_cmp heat 0 ≤ 0
    · simp only [hh, if_true]
      by_cases hg : grew = 0
      · simp only [hg, if_true]
        split <;> rfl
      · simp only [hg, if_false]
    · simp only [hh, if_false]
      by_cases hg : grew = 0
      · simp only [hg, if_true]
        split <;> rfl
      · simp only [hg, if_false]
  · simp only [h4, if_false, ap1, vl_us]
    generalize p_mBoundTick_46 air lowE highE row k 7 0 ((powr (stp k).toNatClampNeg).toInt64 + p_mLeakAt base slope steep knee (row k)) = heat
    by_cases hh : lg_cmp heat 0 ≤ 0
    · simp only [hh, if_true]
      by_cases hg : grew = 0
      · simp only [hg, if_true]
        split <;> rfl
      · simp only [hg, if_false]
    · simp only [hh, if_false]
      by_cases hg : grew = 0
      · simp only [hg, if_true]
        split <;> rfl
      · simp only [hg, if_false]
theorem m_bt207 (grew : Int32) (nxt : Nat → Int64) : ∀ (r k : Nat) (rw3 : Nat → Int64), k + r = 6 → (∀ j : Nat, j < k → rw3 j = nxt j) → ∃ row9 : Nat → Int64, (∀ j : Nat, j < 6 → row9 j = nxt j) ∧ p_mBoundTick_207 grew nxt r k rw3 = (grew, nxt, row9) := by
  intro r
  induction r with
  | zero => intro k rw3 hk h; exact ⟨rw3, fun j hj => h j (by omega), rfl⟩
  | succ r ih =>
    intro k rw3 hk h
    unfold p_mBoundTick_207
    refine ih (k + 1) _ (by omega) (fun j hj => ?_)
    by_cases e : j = k
    · subst e; exact vl_us
    · rw [vl_un e]; exact h j (by omega)
theorem m_btl (N : Nat → Int64) (hN : ∀ j : Nat, m_new air base slope steep knee lowCap highCap lowE highE powr row stp j = N j) : ∀ (r k : Nat) (grew : Int32) (nxt : Nat → Int64), k + r = 6 → (∀ j : Nat, j < k → nxt j = N j) → (grew = 0 ∨ grew = 1) → (grew = 0 ↔ ∀ j : Nat, j < k → N j ≤ row j) →
    ∃ (g' : Int32) (nxt' row' : Nat → Int64), (∀ j : Nat, j < 6 → row' j = N j) ∧ (g' = 0 ∨ g' = 1) ∧ (g' = 0 ↔ ∀ j : Nat, j < 6 → N j ≤ row j) ∧ p_mBoundTick_5 air base slope steep knee lowCap highCap lowE highE powr row stp r k grew nxt = (g', nxt', row') := by
  intro r
  induction r with
  | zero =>
    intro k grew nxt hk h1 h2 h3
    obtain ⟨row', q1, q2⟩ := m_bt207 grew nxt 6 0 row rfl (fun j hj => by omega)
    have hk6 : k = 6 := by omega
    subst hk6
    exact ⟨grew, nxt, row', fun j hj => by rw [q1 j hj]; exact h1 j hj, h2, h3, q2⟩
  | succ r ih =>
    intro k grew nxt hk h1 h2 h3
    rw [m_bt5, hN k]
    refine ih (k + 1) _ _ (by omega) (fun j hj => ?_) ?_ ?_
    · by_cases e : j = k
      · subst e; exact vl_us
      · rw [vl_un e]; exact h1 j (by omega)
    · unfold m_gr
      split
      · split
        · exact Or.inl (by decide)
        · exact Or.inr (by decide)
      · exact Or.inr (by decide)
    · unfold m_gr
      constructor
      · intro q j hj
        by_cases hg : grew = 0
        · rw [if_pos hg] at q
          by_cases hc : lg_cmp (N k) (row k) ≤ 0
          · by_cases e : j = k
            · subst e; exact (lg_cmp_le _ _).mp hc
            · exact h3.mp hg j (by omega)
          · rw [if_neg hc] at q; exact absurd q (by decide)
        · rw [if_neg hg] at q; exact absurd q (by decide)
      · intro q
        have hg : grew = 0 := h3.mpr (fun j hj => q j (by omega))
        rw [if_pos hg, if_pos ((lg_cmp_le _ _).mpr (q k (by omega)))]
        decide
/-- the reference's bound tick -/
theorem m_btick (E : cf_E lowE highE) (C : cf_C lowCap highCap) (P : cf_P powr) (L : nu_leak base slope steep knee) (hst : ∀ j, j < 4 → vp_in (stp j) 4) (B : nu_b b) (hb : ∀ o : Nat, o < 6 → (row o).toInt = b o) (ha : air.toInt = b 6) (nxt : Nat → Int64) :
    ∃ (g' : Int32) (nxt' row' : Nat → Int64), p_mBoundTick air base slope steep knee lowCap highCap lowE highE powr nxt row stp = (g', nxt', row') ∧ (∀ n : Nat, n < 6 → (row' n).toInt = nu_F lowCap highCap lowE highE powr base slope steep knee stp b n) ∧ (g' = 0 ∨ g' = 1) ∧ (g' = 0 ↔ ∀ n : Nat, n < 6 → nu_F lowCap highCap lowE highE powr base slope steep knee stp b n ≤ b n) := by
  have hN : ∀ n : Nat, n < 6 → (m_new air base slope steep knee lowCap highCap lowE highE powr row stp n).toInt = nu_F lowCap highCap lowE highE powr base slope steep knee stp b n := by
    intro n hn
    obtain ⟨c1, c2, c3⟩ := C n hn
    have bn := B n (by omega)
    have hbn := hb n hn
    have hsr := nu_src_ran P L hst B hn
    have hh := nu_heat_ran E P L hst B hn
    have hr := nu_F_ran E C P L hst B hn
    have k1 := Int32.toInt_toInt64 (lowCap n)
    have k2 := Int32.toInt_toInt64 (highCap n)
    have hheat : (m_heat air base slope steep knee lowE highE powr row stp n).toInt = nu_heat lowE highE powr base slope steep knee stp b n := by
      rw [nu_heat_eq]
      unfold m_heat
      unfold nu_src at hsr ⊢
      by_cases h4 : 4 ≤ n
      · rw [if_neg (show ¬ n < 4 by omega)] at hsr ⊢
        rw [if_pos h4]
        exact m_inflow E B hb ha hn (by omega) (by omega) 7 0 0 rfl (by simp [nu_fl, mt_sum])
      · rw [if_pos (show n < 4 by omega)] at hsr ⊢
        rw [if_neg h4]
        have hp := P _ (vin_lt (hst n (by omega)))
        have hl := nu_leak_ran L bn.1 bn.2
        have e1 : (p_mLeakAt base slope steep knee (row n)).toInt = mt_leak base.toInt slope.toInt steep.toInt knee.toInt (b n) := by rw [l_leak L (by rw [hbn]; exact bn.1) (by rw [hbn]; exact bn.2), hbn]
        have k3 := Int32.toInt_toInt64 (powr (stp n).toNatClampNeg)
        refine m_inflow E B hb ha hn hsr.1 hsr.2 7 0 _ rfl ?_
        rw [l_add (by rw [k3, e1]; omega) (by rw [k3, e1]; omega), k3, e1]
        simp [nu_fl, mt_sum, nu_pw]
    rw [nu_F_eq hn]
    unfold m_new
    by_cases h0 : lg_cmp (m_heat air base slope steep knee lowE highE powr row stp n) 0 ≤ 0
    · have h0' := l_le.mp ((lg_cmp_le _ _).mp h0)
      rw [hheat, l_0] at h0'
      rw [mt_g_neg (by omega)] at hr ⊢
      have e : (p_mUp (m_heat air base slope steep knee lowE highE powr row stp n) (highCap n).toInt64).toInt = mt_up (nu_heat lowE highE powr base slope steep knee stp b n) (iE highCap n) := by
        rw [l_up (by rw [k2]; omega) (by rw [hheat]; omega) (by rw [hheat]; omega), hheat, k2]; rfl
      rw [if_pos h0, l_add (by rw [e, hbn]; omega) (by rw [e, hbn]; omega), e, hbn]
    · have h0' : ¬ nu_heat lowE highE powr base slope steep knee stp b n ≤ 0 := fun q => h0 ((lg_cmp_le _ _).mpr (l_le.mpr (by rw [hheat, l_0]; exact q)))
      rw [mt_g_pos (by omega)] at hr ⊢
      have e : (p_mUp (m_heat air base slope steep knee lowE highE powr row stp n) (lowCap n).toInt64).toInt = mt_up (nu_heat lowE highE powr base slope steep knee stp b n) (iE lowCap n) := by
        rw [l_up (by rw [k1]; omega) (by rw [hheat]; omega) (by rw [hheat]; omega), hheat, k1]; rfl
      rw [if_neg h0, l_add (by rw [e, hbn]; omega) (by rw [e, hbn]; omega), e, hbn]
  obtain ⟨g', nxt', row', h1, h2, h3, h4⟩ := m_btl (air := air) (base := base) (slope := slope) (steep := steep) (knee := knee) (lowCap := lowCap) (highCap := highCap) (lowE := lowE) (highE := highE) (powr := powr) (row := row) (stp := stp) _ (fun j => rfl) 6 0 (nI 0) nxt rfl (fun j hj => by omega) (Or.inl (by decide)) ⟨fun _ j hj => by omega, fun _ => by decide⟩
  refine ⟨g', nxt', row', h4, fun n hn => by rw [h1 n hn]; exact hN n hn, h2, h3.trans ⟨fun q n hn => ?_, fun q n hn => l_le.mpr ?_⟩⟩
  · have := l_le.mp (q n hn)
    rw [hN n hn, hb n hn] at this
    exact this
  · rw [hN n hn, hb n hn]
    exact q n hn
end TM
