/-! the order in which cores are served: of the class and of the reference -/
section OR
def fb7 (t : Nat → Nat → Bool) (s : Nat) : Nat → Nat → Nat → Bool → Nat
  | 0, _, first, _ => first
  | r + 1, k, first, found => if s.testBit k = true then fb7 t s r (k + 1) first found else if found = false then fb7 t s r (k + 1) k true else if t k first = true then fb7 t s r (k + 1) k true else fb7 t s r (k + 1) first found
def fbF (t : Nat → Nat → Bool) (s : Nat) : Nat := fb7 t s 4 0 0 false
def fbL (t : Nat → Nat → Bool) : Nat → Nat → List Nat
  | 0, _ => []
  | r + 1, s => fbF t s :: fbL t r (s ||| 1 <<< fbF t s)
def cn95 (t : Nat → Nat → Bool) (w : Nat → Bool) (c : Nat) : Nat → Nat → Nat → Nat
  | 0, _, n => n
  | r + 1, k, n => if w k = false then cn95 t w c r (k + 1) n else if k = c then cn95 t w c r (k + 1) n else if t k c = false then cn95 t w c r (k + 1) n else cn95 t w c r (k + 1) (n + 1)
def or84 (t : Nat → Nat → Bool) (w : Nat → Bool) (place : Nat) : Nat → Nat → List Nat
  | 0, _ => []
  | r + 1, c => if w c = false then or84 t w place r (c + 1) else if cn95 t w c 4 0 0 = place then c :: or84 t w place r (c + 1) else or84 t w place r (c + 1)
def or77 (t : Nat → Nat → Bool) (w : Nat → Bool) : Nat → Nat → List Nat
  | 0, _ => []
  | r + 1, place => or84 t w place 4 0 ++ or77 t w r (place + 1)
def tB (b01 b02 b03 b12 b13 b23 : Bool) : Nat → Nat → Bool
  | 0, 1 => b01 | 1, 0 => !b01 | 0, 2 => b02 | 2, 0 => !b02 | 0, 3 => b03 | 3, 0 => !b03
  | 1, 2 => b12 | 2, 1 => !b12 | 1, 3 => b13 | 3, 1 => !b13 | 2, 3 => b23 | 3, 2 => !b23
  | _, _ => false
def wB (w0 w1 w2 w3 : Bool) : Nat → Bool
  | 0 => w0 | 1 => w1 | 2 => w2 | 3 => w3 | _ => false
def tr3 (a b c : Bool) : Bool := !(a && b) || c
/-- no three of them in a ring -/
def trB (b01 b02 b03 b12 b13 b23 : Bool) : Bool := tr3 b01 b12 b02 && tr3 (!b02) b01 (!b12) && tr3 b12 (!b02) (!b01) && tr3 (!b12) (!b01) (!b02) && tr3 b02 (!b12) b01 && tr3 (!b01) b02 b12
  && tr3 b01 b13 b03 && tr3 (!b01) b03 b13 && tr3 b03 (!b13) b01 && tr3 (!b03) b01 (!b13) && tr3 b13 (!b03) (!b01) && tr3 (!b13) (!b01) (!b03)
  && tr3 b02 b23 b03 && tr3 (!b02) b03 b23 && tr3 b03 (!b23) b02 && tr3 (!b03) b02 (!b23) && tr3 b23 (!b03) (!b02) && tr3 (!b23) (!b02) (!b03)
  && tr3 b12 b23 b13 && tr3 (!b12) b13 b23 && tr3 b13 (!b23) b12 && tr3 (!b13) b12 (!b23) && tr3 b23 (!b13) (!b12) && tr3 (!b23) (!b12) (!b13)
set_option maxRecDepth 100000 in
set_option maxHeartbeats 4000000 in
theorem or_tab : ∀ b01 b02 b03 b12 b13 b23 : Bool, trB b01 b02 b03 b12 b13 b23 = true → ∀ w0 w1 w2 w3 : Bool, (fbL (tB b01 b02 b03 b12 b13 b23) 4 0).filter (wB w0 w1 w2 w3) = or77 (tB b01 b02 b03 b12 b13 b23) (wB w0 w1 w2 w3) 4 0 ∧ (∀ j : Nat, j < 4 → wB w0 w1 w2 w3 j = true → j ∈ or77 (tB b01 b02 b03 b12 b13 b23) (wB w0 w1 w2 w3) 4 0) ∧ (∀ j ∈ fbL (tB b01 b02 b03 b12 b13 b23) 4 0, j < 4) := by decide +kernel
/-- the table of a row of ranks and waits -/
def tbR (ranks waits : Nat → Int32) (k c : Nat) : Bool := decide (k < 4) && decide (c < 4) && decide (¬ p_comesBefore ranks waits k c = 0)
def wbR (wishes : Nat → Int32) (k : Nat) : Bool := decide (k < 4) && decide (¬ wishes k < 0)
variable {ranks waits wishes : Nat → Int32}
theorem tb_iff {k c : Nat} (hk : k < 4) (hc : c < 4) : tbR ranks waits k c = true ↔ (ranks c).toInt < (ranks k).toInt ∨ ((ranks c).toInt = (ranks k).toInt ∧ ((waits c).toInt < (waits k).toInt ∨ ((waits c).toInt = (waits k).toInt ∧ k < c))) := by
  unfold tbR
  rw [decide_eq_true hk, decide_eq_true hc]
  simp only [Bool.true_and, decide_eq_true_eq]
  unfold p_comesBefore
  have e0 : (nI 0 : Int32) = 0 := by decide
  have e1 : ¬ (nI 1 : Int32) = 0 := by decide
  by_cases h1 : ranks k = ranks c
  · rw [if_pos h1]
    have h1' := n_eq.mp h1
    by_cases h2 : waits k = waits c
    · rw [if_pos h2]
      have h2' := n_eq.mp h2
      by_cases h3 : c ≤ k
      · rw [if_pos h3]; exact ⟨fun q => absurd e0 q, fun q => by omega⟩
      · rw [if_neg h3]; exact ⟨fun _ => by omega, fun _ => e1⟩
    · rw [if_neg h2]
      have h2' : ¬ (waits k).toInt = (waits c).toInt := fun q => h2 (n_eq.mpr q)
      by_cases h3 : waits k ≤ waits c
      · have h3' := n_le.mp h3
        rw [if_pos h3]; exact ⟨fun q => absurd e0 q, fun q => by omega⟩
      · have h3' : ¬ (waits k).toInt ≤ (waits c).toInt := fun q => h3 (n_le.mpr q)
        rw [if_neg h3]; exact ⟨fun _ => by omega, fun _ => e1⟩
  · rw [if_neg h1]
    have h1' : ¬ (ranks k).toInt = (ranks c).toInt := fun q => h1 (n_eq.mpr q)
    by_cases h3 : ranks k ≤ ranks c
    · have h3' := n_le.mp h3
      rw [if_pos h3]; exact ⟨fun q => absurd e0 q, fun q => by omega⟩
    · have h3' : ¬ (ranks k).toInt ≤ (ranks c).toInt := fun q => h3 (n_le.mpr q)
      rw [if_neg h3]; exact ⟨fun _ => by omega, fun _ => e1⟩
theorem tb_not {k c : Nat} (hk : k < 4) (hc : c < 4) (hne : ¬ k = c) : tbR ranks waits c k = !tbR ranks waits k c := by
  have h1 := tb_iff (ranks := ranks) (waits := waits) hk hc
  have h2 := tb_iff (ranks := ranks) (waits := waits) hc hk
  cases e1 : tbR ranks waits k c with
  | true =>
    cases e2 : tbR ranks waits c k with
    | true => have g1 := h1.mp e1; have g2 := h2.mp e2; omega
    | false => rfl
  | false =>
    cases e2 : tbR ranks waits c k with
    | true => rfl
    | false =>
      have g1 : ¬ _ := fun q => absurd (h1.mpr q) (by rw [e1]; decide)
      have g2 : ¬ _ := fun q => absurd (h2.mpr q) (by rw [e2]; decide)
      omega
theorem tb_tr {a b c : Nat} (ha : a < 4) (hb : b < 4) (hc : c < 4) : tr3 (tbR ranks waits a b) (tbR ranks waits b c) (tbR ranks waits a c) = true := by
  have h1 := tb_iff (ranks := ranks) (waits := waits) ha hb
  have h2 := tb_iff (ranks := ranks) (waits := waits) hb hc
  have h3 := tb_iff (ranks := ranks) (waits := waits) ha hc
  unfold tr3
  cases e1 : tbR ranks waits a b with
  | false => rfl
  | true =>
    cases e2 : tbR ranks waits b c with
    | false => rfl
    | true =>
      have g1 := h1.mp e1
      have g2 := h2.mp e2
      have g3 : tbR ranks waits a c = true := h3.mpr (by omega)
      rw [g3]; rfl
theorem tb_self (k : Nat) : tbR ranks waits k k = false := by
  by_cases hk : k < 4
  · cases e : tbR ranks waits k k with
    | false => rfl
    | true => have := (tb_iff hk hk).mp e; omega
  · unfold tbR; simp [hk]
theorem tb_eq : tbR ranks waits = tB (tbR ranks waits 0 1) (tbR ranks waits 0 2) (tbR ranks waits 0 3) (tbR ranks waits 1 2) (tbR ranks waits 1 3) (tbR ranks waits 2 3) := by
  have big : ∀ k c : Nat, 4 ≤ k ∨ 4 ≤ c → tbR ranks waits k c = false := by
    intro k c h
    unfold tbR
    rcases h with h | h
    · simp [show ¬ k < 4 by omega]
    · simp [show ¬ c < 4 by omega]
  funext k c
  match k, c with
  | 0, 0 => exact tb_self 0
  | 0, 1 => rfl
  | 0, 2 => rfl
  | 0, 3 => rfl
  | 0, c + 4 => exact big _ _ (Or.inr (by omega))
  | 1, 0 => exact tb_not (by omega) (by omega) (by omega)
  | 1, 1 => exact tb_self 1
  | 1, 2 => rfl
  | 1, 3 => rfl
  | 1, c + 4 => exact big _ _ (Or.inr (by omega))
  | 2, 0 => exact tb_not (by omega) (by omega) (by omega)
  | 2, 1 => exact tb_not (by omega) (by omega) (by omega)
  | 2, 2 => exact tb_self 2
  | 2, 3 => rfl
  | 2, c + 4 => exact big _ _ (Or.inr (by omega))
  | 3, 0 => exact tb_not (by omega) (by omega) (by omega)
  | 3, 1 => exact tb_not (by omega) (by omega) (by omega)
  | 3, 2 => exact tb_not (by omega) (by omega) (by omega)
  | 3, 3 => exact tb_self 3
  | 3, c + 4 => exact big _ _ (Or.inr (by omega))
  | k + 4, c => exact big _ _ (Or.inl (by omega))
theorem wb_eq : wbR wishes = wB (wbR wishes 0) (wbR wishes 1) (wbR wishes 2) (wbR wishes 3) := by
  funext k
  match k with
  | 0 => rfl
  | 1 => rfl
  | 2 => rfl
  | 3 => rfl
  | k + 4 => unfold wbR; simp [show ¬ k + 4 < 4 by omega, wB]
theorem tb_ring : trB (tbR ranks waits 0 1) (tbR ranks waits 0 2) (tbR ranks waits 0 3) (tbR ranks waits 1 2) (tbR ranks waits 1 3) (tbR ranks waits 2 3) = true := by
  have e10 : tbR ranks waits 1 0 = !tbR ranks waits 0 1 := tb_not (by omega) (by omega) (by omega)
  have e20 : tbR ranks waits 2 0 = !tbR ranks waits 0 2 := tb_not (by omega) (by omega) (by omega)
  have e30 : tbR ranks waits 3 0 = !tbR ranks waits 0 3 := tb_not (by omega) (by omega) (by omega)
  have e21 : tbR ranks waits 2 1 = !tbR ranks waits 1 2 := tb_not (by omega) (by omega) (by omega)
  have e31 : tbR ranks waits 3 1 = !tbR ranks waits 1 3 := tb_not (by omega) (by omega) (by omega)
  have e32 : tbR ranks waits 3 2 = !tbR ranks waits 2 3 := tb_not (by omega) (by omega) (by omega)
  have h : ∀ a b c : Nat, a < 4 → b < 4 → c < 4 → tr3 (tbR ranks waits a b) (tbR ranks waits b c) (tbR ranks waits a c) = true := fun a b c ha hb hc => tb_tr ha hb hc
  unfold trB
  rw [← e10, ← e20, ← e30, ← e21, ← e31, ← e32]
  simp only [h 0 1 2 (by omega) (by omega) (by omega), h 2 0 1 (by omega) (by omega) (by omega), h 1 2 0 (by omega) (by omega) (by omega), h 2 1 0 (by omega) (by omega) (by omega), h 0 2 1 (by omega) (by omega) (by omega), h 1 0 2 (by omega) (by omega) (by omega),
    h 0 1 3 (by omega) (by omega) (by omega), h 1 0 3 (by omega) (by omega) (by omega), h 0 3 1 (by omega) (by omega) (by omega), h 3 0 1 (by omega) (by omega) (by omega), h 1 3 0 (by omega) (by omega) (by omega), h 3 1 0 (by omega) (by omega) (by omega),
    h 0 2 3 (by omega) (by omega) (by omega), h 2 0 3 (by omega) (by omega) (by omega), h 0 3 2 (by omega) (by omega) (by omega), h 3 0 2 (by omega) (by omega) (by omega), h 2 3 0 (by omega) (by omega) (by omega), h 3 2 0 (by omega) (by omega) (by omega),
    h 1 2 3 (by omega) (by omega) (by omega), h 2 1 3 (by omega) (by omega) (by omega), h 1 3 2 (by omega) (by omega) (by omega), h 3 1 2 (by omega) (by omega) (by omega), h 2 3 1 (by omega) (by omega) (by omega), h 3 2 1 (by omega) (by omega) (by omega)]
  rfl
/-- the two orders are one -/
theorem or_same (ranks waits wishes : Nat → Int32) : (fbL (tbR ranks waits) 4 0).filter (wbR wishes) = or77 (tbR ranks waits) (wbR wishes) 4 0 ∧ (∀ j : Nat, j < 4 → wbR wishes j = true → j ∈ or77 (tbR ranks waits) (wbR wishes) 4 0) ∧ ∀ j ∈ fbL (tbR ranks waits) 4 0, j < 4 := by
  have h := or_tab _ _ _ _ _ _ (tb_ring (ranks := ranks) (waits := waits)) (wbR wishes 0) (wbR wishes 1) (wbR wishes 2) (wbR wishes 3)
  rw [← tb_eq, ← wb_eq] at h
  exact h
theorem c_fb7 {s : Nat} (hs : s < 128) : ∀ (r k first : Nat) (found : Bool), k + r = 4 → first < 4 → p_firstBut_7 ranks waits (nI s) r k first (if found = true then nI 1 else nI 0) = fb7 (tbR ranks waits) s r k first found := by
  intro r
  induction r with
  | zero => intro k first found hk hf; rfl
  | succ r ih =>
    intro k first found hk hf
    have hb := (j_tab k (by omega) s hs).1
    have i1 := ih (k + 1) k true (by omega) (by omega)
    have i2 := ih (k + 1) first found (by omega) hf
    rw [if_pos rfl] at i1
    unfold p_firstBut_7 fb7
    cases e : s.testBit k with
    | true =>
      rw [if_neg (fun q => by have := hb.mp q; rw [e] at this; cases this), if_pos rfl]
      exact i2
    | false =>
      rw [if_pos (hb.mpr e), if_neg (show ¬ false = true by decide)]
      cases found with
      | false =>
        rw [if_pos (show (if false = true then nI 1 else nI 0) = 0 by decide), if_pos (show false = false from rfl)]
        exact i1
      | true =>
        rw [if_neg (show ¬ (if true = true then nI 1 else nI 0) = 0 by decide), if_neg (show ¬ true = false by decide)]
        have ht : tbR ranks waits k first = true ↔ ¬ p_comesBefore ranks waits k first = 0 := by
          unfold tbR
          rw [decide_eq_true (show k < 4 by omega), decide_eq_true hf]
          simp
        by_cases hc : p_comesBefore ranks waits k first = 0
        · rw [if_pos hc, if_neg (fun q => (ht.mp q) hc)]; exact i2
        · rw [if_neg hc, if_pos (ht.mpr hc)]; exact i1
theorem c_fb {s : Nat} (hs : s < 128) : p_firstBut ranks waits (nI s) = fbF (tbR ranks waits) s := c_fb7 hs 4 0 0 false rfl (by omega)
theorem m_cn95 {c : Nat} (hc : c < 4) : ∀ (r k n : Nat), k + r = 4 → p_mPeriod_95 wishes ranks waits c r k (nI n) = nI (cn95 (tbR ranks waits) (wbR wishes) c r k n) := by
  intro r
  induction r with
  | zero => intro k n hk; rfl
  | succ r ih =>
    intro k n hk
    have hk4 : k < 4 := by omega
    unfold p_mPeriod_95 cn95
    have hw : wbR wishes k = false ↔ wishes k < 0 := by
      unfold wbR
      rw [decide_eq_true hk4]
      simp
    by_cases h1 : wishes k < 0
    · rw [if_pos h1, if_pos (hw.mpr h1)]; exact ih _ _ (by omega)
    · rw [if_neg h1, if_neg (fun q => h1 (hw.mp q))]
      by_cases h2 : k = c
      · rw [if_pos h2, if_pos h2]; exact ih _ _ (by omega)
      · rw [if_neg h2, if_neg h2]
        have ht : tbR ranks waits k c = false ↔ p_mIsBefore ranks waits k c = 0 := by
          unfold tbR
          rw [decide_eq_true hk4, decide_eq_true hc]
          simp
          exact Iff.rfl
        by_cases h3 : p_mIsBefore ranks waits k c = 0
        · rw [if_pos h3, if_pos (ht.mpr h3)]; exact ih _ _ (by omega)
        · rw [if_neg h3, if_neg (fun q => h3 (ht.mp q)), nI_add]; exact ih _ _ (by omega)
theorem cn95_le (t : Nat → Nat → Bool) (w : Nat → Bool) (c : Nat) : ∀ r k n : Nat, cn95 t w c r k n ≤ n + r := by
  intro r
  induction r with
  | zero => intro k n; exact Nat.le_refl _
  | succ r ih =>
    intro k n
    unfold cn95
    have h1 := ih (k + 1) n
    have h2 := ih (k + 1) (n + 1)
    split
    · omega
    · split
      · omega
      · split <;> omega
end OR
