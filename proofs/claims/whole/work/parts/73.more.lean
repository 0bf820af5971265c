section MR
variable {lowCap highCap lowE highE lim powr : Nat → Int32} {base slope steep knee air : Int32} {idle bnd steps : Nat → Int32} {b t : Nat → Int}
theorem nu_b_of {f g : (Nat → Int) → Nat → Int} {k : Nat} {hi : Int32} (htb : ∀ o : Nat, o < 7 → 0 ≤ t o ∧ t o ≤ b o) (hok : mt_ok f g (iE lim) k b) (M : ∀ n : Nat, n < 6 → 0 ≤ (lim n).toInt ∧ (lim n).toInt ≤ 50000) (hb6 : b 6 = hi.toInt) (hair : hi.toInt ≤ 50000) : nu_b b := by
  intro o ho
  refine ⟨by have := htb o ho; omega, ?_⟩
  by_cases h6 : o < 6
  · have h1 : b o ≤ (lim o).toInt := mt_ok_now hok o h6
    have := M o h6
    omega
  · rw [show o = 6 by omega, hb6]; exact hair
theorem rp_0 (h : (powr 0).toInt ≤ (powr 1).toInt ∧ (powr 1).toInt ≤ (powr 2).toInt ∧ (powr 2).toInt ≤ (powr 3).toInt) : ∀ j : Nat, j < 4 → (powr 0).toInt ≤ (powr j).toInt := by
  intro j hj
  rcases (show j = 0 ∨ j = 1 ∨ j = 2 ∨ j = 3 by omega) with rfl | rfl | rfl | rfl <;> omega
theorem ok_idle (K : cf_K lowCap highCap lowE highE lim powr base slope steep knee) (hpr : ∀ j : Nat, j < 4 → (powr 0).toInt ≤ (powr j).toInt) (hid : ∀ j : Nat, j < 4 → idle j = nI 0) (hst : ∀ j : Nat, j < 4 → vp_in (steps j) 4) {k : Nat} (hok : mt_ok (nu_F lowCap highCap lowE highE powr base slope steep knee steps) (nu_F lowCap highCap lowE highE powr base slope steep knee idle) (iE lim) k b) : mt_ok (nu_F lowCap highCap lowE highE powr base slope steep knee idle) (nu_F lowCap highCap lowE highE powr base slope steep knee idle) (iE lim) 8 b :=
  mt_ok_any k 8 b (mt_ok_f (nu_F_mono K) (nu_F_mono K) (nu_F_mono K) (fun b => nu_F_pow K (fun j hj => by rw [hid j hj, show (nI 0).toNatClampNeg = 0 by decide]; exact hpr _ (vin_lt (hst j hj))) b) k b hok)
def ahv (row : Int32) (j : Nat) : Int32 := (row >>> ((nI (2 * j)) &&& 31)) &&& nI 3
theorem c_ah14 {trial grow : Nat → Int32} {row : Int32} : ∀ (r k : Nat) (lkd : Nat → Int32), k + r = 4 → (∀ j : Nat, j < k → lkd j = ahv row j) → ∃ lkd' : Nat → Int32, (∀ j : Nat, j < 4 → lkd' j = ahv row j) ∧ p_gAhead_14 trial idle base slope steep knee lowCap highCap lowE highE lim powr grow bnd row r k lkd = p_gAhead_14 trial idle base slope steep knee lowCap highCap lowE highE lim powr grow bnd row 0 4 lkd' := by
  intro r
  induction r with
  | zero => intro k lkd hk h; exact ⟨lkd, fun j hj => h j (by omega), by rw [show k = 4 by omega]⟩
  | succ r ih =>
    intro k lkd hk h
    rw [p_gAhead_14]
    refine ih (k + 1) _ (by omega) (fun j hj => ?_)
    by_cases e : j = k
    · subst e; exact pk_us
    · rw [pk_un e]; exact h j (by omega)
theorem ap3_eq {A B C Y : Type} (x : A × B × C) (f : A → B → C → Y) : ap3 x f = f x.1 x.2.1 x.2.2 := rfl
theorem c_ahz {trial grow lkd : Nat → Int32} {row : Int32} (k : Nat) : p_gAhead_14 trial idle base slope steep knee lowCap highCap lowE highE lim powr grow bnd row 0 k lkd = Sum.inr ((p_isSafe trial idle base slope steep knee lowCap highCap lowE highE lim powr grow bnd lkd).1, lkd, (p_isSafe trial idle base slope steep knee lowCap highCap lowE highE lim powr grow bnd lkd).2.1, (p_isSafe trial idle base slope steep knee lowCap highCap lowE highE lim powr grow bnd lkd).2.2) := by
  rw [p_gAhead_14]
  exact ap3_eq _ _
variable {bou nxt prb : Nat → Int64}
theorem m_ah42 {row : Int32} : ∀ (r k : Nat) (trd : Nat → Int32), k + r = 4 → (∀ j : Nat, j < k → trd j = ahv row j) → ∃ trd' : Nat → Int32, (∀ j : Nat, j < 4 → trd' j = ahv row j) ∧ p_mAhead_42 air base slope steep knee lowCap highCap lowE highE lim powr bou nxt prb row r k trd = p_mAhead_42 air base slope steep knee lowCap highCap lowE highE lim powr bou nxt prb row 0 4 trd' := by
  intro r
  induction r with
  | zero => intro k trd hk h; exact ⟨trd, fun j hj => h j (by omega), by rw [show k = 4 by omega]⟩
  | succ r ih =>
    intro k trd hk h
    rw [p_mAhead_42]
    refine ih (k + 1) _ (by omega) (fun j hj => ?_)
    by_cases e : j = k
    · subst e; exact pk_us
    · rw [pk_un e]; exact h j (by omega)
theorem m_ahz {row : Int32} {trd : Nat → Int32} (k : Nat) : p_mAhead_42 air base slope steep knee lowCap highCap lowE highE lim powr bou nxt prb row 0 k trd = ((p_mIsSafe air base slope steep knee lowCap highCap lowE highE lim powr bou nxt prb trd).1, nI 0, (p_mIsSafe air base slope steep knee lowCap highCap lowE highE lim powr bou nxt prb trd).2.1, (p_mIsSafe air base slope steep knee lowCap highCap lowE highE lim powr bou nxt prb trd).2.2.1, (p_mIsSafe air base slope steep knee lowCap highCap lowE highE lim powr bou nxt prb trd).2.2.2) := by
  rw [p_mAhead_42]
  exact ap4_eq _ _
/-- the seal -/
theorem c_nb43 {a c d e : Nat → Int32} : ∀ (r k : Nat) (al : Nat → Int32), p_nodesBegin_43 a c d e r k al = (a, c, d, e, lp (nI 1) r k al) := by
  intro r
  induction r with
  | zero => intro k al; rw [p_nodesBegin_43, lp]
  | succ r ih => intro k al; rw [p_nodesBegin_43, lp, ih]
theorem c_nbeg {a c d e al : Nat → Int32} {ta ha : Int32} : p_nodesBegin a c d e al ta ha = (lp ta 7 0 a, lp ha 7 0 c, lp ha 6 0 d, lp (nI 0) 6 0 e, lp (nI 1) 6 0 al) := by
  unfold p_nodesBegin
  rw [fl7, fl7, fl6, fl6]
  simp only [ap1]
  rw [c_nb43]
theorem c_cbeg {a c d e h : Nat → Int32} : p_coresBegin a c d e h = (lp (nI 0) 4 0 a, lp (-1) 4 0 c, lp (nI 0) 4 0 d, lp (nI 0) 4 0 e, lp (nI 0) 4 0 h, nI 0) := by
  unfold p_coresBegin
  rw [fl4, fl4, fl4, fl4, fl4]
  simp only [ap1]
def lpL (v : Int64) : Nat → Nat → (Nat → Int64) → Nat → Int64
  | 0, _, w => w
  | r + 1, k, w => lpL v r (k + 1) (vp_updL w k v)
theorem lpL_at {v : Int64} : ∀ (r k : Nat) (w : Nat → Int64) (j : Nat), (∀ i : Nat, i < k → w i = v) → j < k + r → lpL v r k w j = v := by
  intro r
  induction r with
  | zero => intro k w j h hj; exact h j (by omega)
  | succ r ih =>
    intro k w j h hj
    rw [lpL]
    refine ih (k + 1) _ j (fun i hi => ?_) (by omega)
    by_cases e : i = k
    · subst e; exact vl_us
    · rw [vl_un e]; exact h i (by omega)
theorem lpL_0 {v : Int64} {n j : Nat} {w : Nat → Int64} (h : j < n) : lpL v n 0 w j = v := lpL_at n 0 w j (fun i hi => by omega) (by omega)
theorem m_80 {ta ha : Int32} {bo n1 n2 : Nat → Int64} {tr : Nat → Int32} : ∀ (r k : Nat) (wr pe : Nat → Int64), p_mSeal_80 ta ha bo n1 n2 tr r k wr pe = (nI 1, nI 0, nI 1, bo, lpL ta.toInt64 r k wr, lpL ha.toInt64 r k pe, n1, n2, tr) := by
  intro r
  induction r with
  | zero => intro k wr pe; rw [p_mSeal_80, lpL, lpL]
  | succ r ih => intro k wr pe; rw [p_mSeal_80, ih, lpL, lpL]
theorem m_41 {sl ta : Int32} {trd : Nat → Int32} {wr pe : Nat → Int64} : ∀ (r k : Nat) (bo : Nat → Int64), p_mSeal_41 sl ta air base slope steep knee lowCap highCap lowE highE lim powr nxt prb trd wr pe r k bo = p_mSeal_41 sl ta air base slope steep knee lowCap highCap lowE highE lim powr nxt prb trd wr pe 0 (k + r) (lpL air.toInt64 r k bo) := by
  intro r
  induction r with
  | zero => intro k bo; rw [lpL]; rfl
  | succ r ih =>
    intro k bo
    have step : p_mSeal_41 sl ta air base slope steep knee lowCap highCap lowE highE lim powr nxt prb trd wr pe (r + 1) k bo = p_mSeal_41 sl ta air base slope steep knee lowCap highCap lowE highE lim powr nxt prb trd wr pe r (k + 1) (vp_updL bo k air.toInt64) := by rw [p_mSeal_41]
    rw [step, ih, lpL, show k + 1 + r = k + (r + 1) by omega]
theorem m_41z {sl ta : Int32} {trd : Nat → Int32} {wr pe bo : Nat → Int64} (k : Nat) : p_mSeal_41 sl ta air base slope steep knee lowCap highCap lowE highE lim powr nxt prb trd wr pe 0 k bo = if (p_mIsSafe air base slope steep knee lowCap highCap lowE highE lim powr bo nxt prb trd).1 = 0 then (nI 0, nI 0, sl, bo, wr, pe, (p_mIsSafe air base slope steep knee lowCap highCap lowE highE lim powr bo nxt prb trd).2.1, (p_mIsSafe air base slope steep knee lowCap highCap lowE highE lim powr bo nxt prb trd).2.2.1, (p_mIsSafe air base slope steep knee lowCap highCap lowE highE lim powr bo nxt prb trd).2.2.2) else (nI 1, nI 0, nI 1, bo, lpL ta.toInt64 6 0 wr, lpL air.toInt64 6 0 pe, (p_mIsSafe air base slope steep knee lowCap highCap lowE highE lim powr bo nxt prb trd).2.1, (p_mIsSafe air base slope steep knee lowCap highCap lowE highE lim powr bo nxt prb trd).2.2.1, (p_mIsSafe air base slope steep knee lowCap highCap lowE highE lim powr bo nxt prb trd).2.2.2) := by
  rw [p_mSeal_41, ← m_80 (ta := ta) (ha := air) 6 0 wr pe]
  exact ap4_eq _ _
end MR
