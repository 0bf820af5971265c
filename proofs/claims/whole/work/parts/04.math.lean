/-! the governor's mathematics, over Int: temperatures are functions of the place (0 .. 5 the nodes, 6 the air) -/
section MT
theorem mt_lt_or_ge (a b : Int) : a < b ∨ b ≤ a := by omega
def mt_sum (f : Nat → Int) : Nat → Int
  | 0 => 0
  | n + 1 => mt_sum f n + f n
theorem mt_sum_le {f g : Nat → Int} : ∀ n, (∀ i, i < n → f i ≤ g i) → mt_sum f n ≤ mt_sum g n := by
  intro n
  induction n with
  | zero => intro _; exact Int.le_refl _
  | succ n ih =>
    intro h
    have h1 := ih (fun i hi => h i (by omega))
    have h2 := h n (by omega)
    show mt_sum f n + f n ≤ mt_sum g n + g n
    omega
theorem mt_sum_mul (f : Nat → Int) (d : Int) : ∀ n, mt_sum (fun i => f i * d) n = mt_sum f n * d := by
  intro n
  induction n with
  | zero => simp [mt_sum]
  | succ n ih => simp only [mt_sum, ih, Int.add_mul]
theorem mt_sum_sub (f g : Nat → Int) : ∀ n, mt_sum (fun i => f i - g i) n = mt_sum f n - mt_sum g n := by
  intro n
  induction n with
  | zero => rfl
  | succ n ih => simp only [mt_sum, ih]; omega
theorem mt_sum_congr {f g : Nat → Int} : ∀ n, (∀ i, i < n → f i = g i) → mt_sum f n = mt_sum g n := by
  intro n
  induction n with
  | zero => intro _; rfl
  | succ n ih => intro h; simp only [mt_sum, ih (fun i hi => h i (by omega)), h n (by omega)]
theorem mt_sum_nonneg {f : Nat → Int} : ∀ n, (∀ i, i < n → 0 ≤ f i) → 0 ≤ mt_sum f n := by
  intro n
  induction n with
  | zero => intro _; exact Int.le_refl _
  | succ n ih =>
    intro h
    have h1 := ih (fun i hi => h i (by omega))
    have h2 := h n (by omega)
    show 0 ≤ mt_sum f n + f n
    omega
/-- what goes over an edge, at its worst: h its highest, l its lowest conductance -/
def mt_w (h l d : Int) : Int := if 0 < d then h * d else l * d
theorem mt_w_mono {h l d d' : Int} (hl : 0 ≤ l) (hh : l ≤ h) (hd : d ≤ d') : mt_w h l d ≤ mt_w h l d' := by
  unfold mt_w
  by_cases h1 : 0 < d
  · rw [if_pos h1, if_pos (by omega)]
    exact Int.mul_le_mul_of_nonneg_left hd (by omega)
  · rw [if_neg h1]
    by_cases h2 : 0 < d'
    · rw [if_pos h2]
      have h3 : l * d ≤ 0 := Int.mul_nonpos_of_nonneg_of_nonpos hl (by omega)
      have h4 : 0 ≤ h * d' := Int.mul_nonneg (by omega) (by omega)
      omega
    · rw [if_neg h2]
      exact Int.mul_le_mul_of_nonneg_left hd hl
theorem mt_w_lip {h l d x : Int} (hl : 0 ≤ l) (hh : l ≤ h) (hx : 0 ≤ x) : mt_w h l d - h * x ≤ mt_w h l (d - x) := by
  unfold mt_w
  have e1 : h * (d - x) = h * d - h * x := Int.mul_sub ..
  have e2 : l * (d - x) = l * d - l * x := Int.mul_sub ..
  have e3 : l * x ≤ h * x := Int.mul_le_mul_of_nonneg_right hh hx
  by_cases h1 : 0 < d - x
  · rw [if_pos h1, if_pos (by omega)]
    omega
  · rw [if_neg h1]
    by_cases h2 : 0 < d
    · rw [if_pos h2]
      have e4 : h * (d - x) ≤ l * (d - x) := by
        have := Int.mul_le_mul_of_nonpos_right hh (show d - x ≤ 0 by omega)
        exact this
      omega
    · rw [if_neg h2]
      omega
theorem mt_w_ge {h l r d : Int} (h1 : l ≤ r) (h2 : r ≤ h) : r * d ≤ mt_w h l d := by
  unfold mt_w
  by_cases hd : 0 < d
  · rw [if_pos hd]; exact Int.mul_le_mul_of_nonneg_right h2 (by omega)
  · rw [if_neg hd]; exact Int.mul_le_mul_of_nonpos_right h1 (by omega)
/-- a / b, rounded up -/
def mt_up (a b : Int) : Int := -((-a) / b)
theorem mt_up_spec {a b : Int} (hb : 0 < b) : a ≤ mt_up a b * b ∧ mt_up a b * b < a + b := by
  unfold mt_up
  have h1 := Int.mul_ediv_add_emod (-a) b
  have h2 := Int.emod_nonneg (-a) (show b ≠ 0 by omega)
  have h3 := Int.emod_lt_of_pos (-a) hb
  have h4 : -(-a / b) * b = -(b * (-a / b)) := by rw [Int.neg_mul, Int.mul_comm]
  omega
theorem mt_up_le {a b k : Int} (hb : 0 < b) (h : a ≤ k * b) : mt_up a b ≤ k := by
  have h1 := (mt_up_spec (a := a) hb).2
  have h2 : mt_up a b * b < (k + 1) * b := by rw [Int.add_mul]; omega
  have := Int.lt_of_mul_lt_mul_right h2 (by omega)
  omega
theorem mt_le_up {a b k : Int} (hb : 0 < b) (h : (k - 1) * b < a) : k ≤ mt_up a b := by
  have h1 := (mt_up_spec (a := a) hb).1
  have h2 : (k - 1) * b < mt_up a b * b := by omega
  have := Int.lt_of_mul_lt_mul_right h2 (by omega)
  omega
/-- the worst growth: a heat above 0 in the lowest capacity, else in the highest -/
def mt_g (a lo hi : Int) : Int := mt_up a (if 0 < a then lo else hi)
theorem mt_g_pos {a lo hi : Int} (h : 0 < a) : mt_g a lo hi = mt_up a lo := by unfold mt_g; rw [if_pos h]
theorem mt_g_neg {a lo hi : Int} (h : ¬ 0 < a) : mt_g a lo hi = mt_up a hi := by unfold mt_g; rw [if_neg h]
theorem mt_g_mono {a a' lo hi : Int} (hlo : 0 < lo) (hhi : lo ≤ hi) (h : a ≤ a') : mt_g a lo hi ≤ mt_g a' lo hi := by
  by_cases h1 : 0 < a
  · rw [mt_g_pos h1, mt_g_pos (by omega)]
    exact mt_up_le hlo (by have := (mt_up_spec (a := a') hlo).1; omega)
  · rw [mt_g_neg h1]
    have h3 : mt_up a hi ≤ 0 := mt_up_le (by omega) (by omega)
    by_cases h2 : 0 < a'
    · rw [mt_g_pos h2]
      have h4 : 1 ≤ mt_up a' lo := mt_le_up hlo (by omega)
      omega
    · rw [mt_g_neg h2]
      exact mt_up_le (by omega) (by have := (mt_up_spec (a := a') (show 0 < hi by omega)).1; omega)
/-- the contraction: taking x off a heat takes no more than d off the growth -/
theorem mt_g_lip {a lo hi x d : Int} (hlo : 0 < lo) (hhi : lo ≤ hi) (hx : 0 ≤ x) (hd : 0 ≤ d) (h : x ≤ d * lo) : mt_g a lo hi - d ≤ mt_g (a - x) lo hi := by
  have hdh : d * lo ≤ d * hi := Int.mul_le_mul_of_nonneg_left hhi hd
  by_cases h1 : 0 < a - x
  · rw [mt_g_pos h1, mt_g_pos (by omega)]
    have h2 := (mt_up_spec (a := a) hlo).2
    refine mt_le_up hlo ?_
    have e : (mt_up a lo - d - 1) * lo = mt_up a lo * lo - d * lo - lo := by rw [Int.sub_mul, Int.sub_mul, Int.one_mul]
    omega
  · rw [mt_g_neg h1]
    by_cases h2 : 0 < a
    · rw [mt_g_pos h2]
      have h3 := (mt_up_spec (a := a) hlo).2
      refine mt_le_up (by omega) ?_
      have e : (mt_up a lo - d - 1) * lo = mt_up a lo * lo - d * lo - lo := by rw [Int.sub_mul, Int.sub_mul, Int.one_mul]
      have hk : (mt_up a lo - d - 1) * lo < 0 := by omega
      have hk2 : mt_up a lo - d - 1 < 0 := by
        rcases mt_lt_or_ge (mt_up a lo - d - 1) 0 with h4 | h4
        · exact h4
        · have := Int.mul_nonneg h4 (show 0 ≤ lo by omega); omega
      have h5 : (mt_up a lo - d - 1) * hi ≤ (mt_up a lo - d - 1) * lo := Int.mul_le_mul_of_nonpos_left (by omega) hhi
      omega
    · rw [mt_g_neg h2]
      have h3 := (mt_up_spec (a := a) (show 0 < hi by omega)).2
      refine mt_le_up (by omega) ?_
      have e : (mt_up a hi - d - 1) * hi = mt_up a hi * hi - d * hi - hi := by rw [Int.sub_mul, Int.sub_mul, Int.one_mul]
      omega
/-- the true growth is at most the worst -/
theorem mt_g_true {a a' lo hi tc : Int} (hlo : 0 < lo) (h1 : lo ≤ tc) (h2 : tc ≤ hi) (h : a ≤ a') : a / tc ≤ mt_g a' lo hi := by
  have htc : 0 < tc := by omega
  have e1 := Int.mul_ediv_add_emod a tc
  have e2 := Int.emod_nonneg a (show tc ≠ 0 by omega)
  have e3 : a / tc * tc ≤ a := by rw [Int.mul_comm]; omega
  by_cases hp : 0 < a'
  · rw [mt_g_pos hp]
    have h3 := (mt_up_spec (a := a') hlo).1
    have h4 : 1 ≤ mt_up a' lo := mt_le_up hlo (by omega)
    rcases mt_lt_or_ge 0 (a / tc) with h5 | h5
    · have h6 : a / tc * lo ≤ a / tc * tc := Int.mul_le_mul_of_nonneg_left h1 (by omega)
      refine Int.le_of_mul_le_mul_right (a := lo) ?_ hlo
      omega
    · omega
  · rw [mt_g_neg hp]
    have h3 := (mt_up_spec (a := a') (show 0 < hi by omega)).1
    have h4 : a / tc ≤ 0 := by
      rcases mt_lt_or_ge 0 (a / tc) with h5 | h5
      · have := Int.mul_pos h5 htc; omega
      · exact h5
    have h6 : a / tc * hi ≤ a / tc * tc := Int.mul_le_mul_of_nonpos_left h4 h2
    refine Int.le_of_mul_le_mul_right (a := hi) ?_ (by omega)
    omega
end MT
section MF
/-- the heat of a node at its worst; the bound tick -/
def mt_heat (hE lE : Nat → Int) (src : Nat → Int → Int) (b : Nat → Int) (n : Nat) : Int := src n (b n) + mt_sum (fun o => mt_w (hE (7 * n + o)) (lE (7 * n + o)) (b o - b n)) 7
def mt_F (hE lE lc hc : Nat → Int) (src : Nat → Int → Int) (b : Nat → Int) : Nat → Int := fun n => if n < 6 then b n + mt_g (mt_heat hE lE src b n) (lc n) (hc n) else b n
/-- what a sealed package is -/
def mt_nice (hE lE lc hc : Nat → Int) : Prop := (∀ n o, n < 6 → o < 7 → 0 ≤ lE (7 * n + o) ∧ lE (7 * n + o) ≤ hE (7 * n + o)) ∧ (∀ n, n < 6 → 0 < lc n ∧ lc n ≤ hc n ∧ mt_sum (fun o => hE (7 * n + o)) 7 ≤ lc n)
variable {hE lE lc hc : Nat → Int} {src src' : Nat → Int → Int} {b b' : Nat → Int}
theorem mt_heat_mono (N : mt_nice hE lE lc hc) (hs : ∀ n t t', n < 6 → t ≤ t' → src n t ≤ src n t') (hb : ∀ n, n < 7 → b n ≤ b' n) {n : Nat} (hn : n < 6) :
    mt_heat hE lE src b n - (mt_sum (fun o => hE (7 * n + o)) 7) * (b' n - b n) ≤ mt_heat hE lE src b' n := by
  unfold mt_heat
  have h1 := hs n _ _ hn (hb n (by omega))
  rw [← mt_sum_mul]
  have h2 : mt_sum (fun o => mt_w (hE (7 * n + o)) (lE (7 * n + o)) (b o - b n) - hE (7 * n + o) * (b' n - b n)) 7 ≤ mt_sum (fun o => mt_w (hE (7 * n + o)) (lE (7 * n + o)) (b' o - b' n)) 7 := by
    refine mt_sum_le 7 (fun o ho => ?_)
    obtain ⟨e1, e2⟩ := N.1 n o hn ho
    have e3 := mt_w_lip (d := b o - b n) (x := b' n - b n) e1 e2 (by have := hb n (by omega); omega)
    have e4 := mt_w_mono (d := b o - b n - (b' n - b n)) (d' := b' o - b' n) e1 e2 (by have := hb o ho; omega)
    omega
  rw [mt_sum_sub] at h2
  omega
theorem mt_F_mono (N : mt_nice hE lE lc hc) (hs : ∀ n t t', n < 6 → t ≤ t' → src n t ≤ src n t') (hb : ∀ n, n < 7 → b n ≤ b' n) : ∀ n, n < 7 → mt_F hE lE lc hc src b n ≤ mt_F hE lE lc hc src b' n := by
  intro n hn
  unfold mt_F
  by_cases h6 : n < 6
  · rw [if_pos h6, if_pos h6]
    obtain ⟨e1, e2, e3⟩ := N.2 n h6
    have h1 := mt_heat_mono (src := src) N hs hb h6
    have hd : 0 ≤ b' n - b n := by have := hb n hn; omega
    have hx : 0 ≤ mt_sum (fun o => hE (7 * n + o)) 7 := mt_sum_nonneg 7 (fun o ho => by have := N.1 n o h6 ho; omega)
    have h2 := mt_g_lip (a := mt_heat hE lE src b n) (x := mt_sum (fun o => hE (7 * n + o)) 7 * (b' n - b n)) (d := b' n - b n) e1 e2 (Int.mul_nonneg hx hd) hd (by rw [Int.mul_comm]; exact Int.mul_le_mul_of_nonneg_left e3 hd)
    have h3 := mt_g_mono e1 e2 h1
    omega
  · rw [if_neg h6, if_neg h6]
    exact hb n hn
theorem mt_F_src (N : mt_nice hE lE lc hc) (hs : ∀ n t, n < 6 → src n t ≤ src' n t) : ∀ n, n < 7 → mt_F hE lE lc hc src b n ≤ mt_F hE lE lc hc src' b n := by
  intro n hn
  unfold mt_F
  by_cases h6 : n < 6
  · rw [if_pos h6, if_pos h6]
    obtain ⟨e1, e2, e3⟩ := N.2 n h6
    have h3 : mt_heat hE lE src b n ≤ mt_heat hE lE src' b n := by unfold mt_heat; have := hs n (b n) h6; omega
    have := mt_g_mono e1 e2 h3
    omega
  · rw [if_neg h6, if_neg h6]
    exact Int.le_refl _
theorem mt_F_air (n : Nat) (hn : ¬ n < 6) : mt_F hE lE lc hc src b n = b n := by unfold mt_F; rw [if_neg hn]
/-- a bound tick keeps what is at least 0 -/
theorem mt_F_nonneg (N : mt_nice hE lE lc hc) (hs : ∀ n t t', n < 6 → t ≤ t' → src n t ≤ src n t') (h0 : ∀ n, n < 6 → 0 ≤ src n 0) (hb : ∀ n, n < 7 → 0 ≤ b n) : ∀ n, n < 7 → 0 ≤ mt_F hE lE lc hc src b n := by
  intro n hn
  have h1 := mt_F_mono (b := fun _ => 0) (src := src) N hs hb n hn
  refine Int.le_trans ?_ h1
  unfold mt_F
  by_cases h6 : n < 6
  · rw [if_pos h6]
    obtain ⟨e1, e2, e3⟩ := N.2 n h6
    have h2 : 0 ≤ mt_heat hE lE src (fun _ => 0) n := by
      unfold mt_heat
      have e4 : mt_sum (fun o => mt_w (hE (7 * n + o)) (lE (7 * n + o)) (0 - 0)) 7 = mt_sum (fun _ => 0) 7 := mt_sum_congr 7 (fun o _ => by simp [mt_w])
      have e5 : mt_sum (fun _ => 0) 7 = 0 := by simp [mt_sum]
      have := h0 n h6
      show 0 ≤ src n 0 + mt_sum (fun o => mt_w (hE (7 * n + o)) (lE (7 * n + o)) (0 - 0)) 7
      omega
    have h3 := mt_g_mono e1 e2 h2
    have h4 : 0 ≤ mt_g 0 (lc n) (hc n) := by rw [mt_g_neg (by omega)]; exact mt_le_up (by omega) (by rw [Int.zero_sub, Int.neg_one_mul]; omega)
    show (0 : Int) ≤ 0 + mt_g (mt_heat hE lE src (fun _ => 0) n) (lc n) (hc n)
    omega
  · rw [if_neg h6]; exact Int.le_refl _
/-- a bound tick again and again -/
def mt_it (f : (Nat → Int) → Nat → Int) : Nat → (Nat → Int) → Nat → Int
  | 0, b => b
  | k + 1, b => mt_it f k (f b)
theorem mt_it_succ (f : (Nat → Int) → Nat → Int) : ∀ k b, mt_it f (k + 1) b = f (mt_it f k b) := by
  intro k
  induction k with
  | zero => intro b; rfl
  | succ k ih => intro b; show mt_it f (k + 1) (f b) = _; rw [ih]; rfl
def mt_le (b b' : Nat → Int) : Prop := ∀ n, n < 7 → b n ≤ b' n
theorem mt_it_mono {f : (Nat → Int) → Nat → Int} (hf : ∀ b b', mt_le b b' → mt_le (f b) (f b')) : ∀ k b b', mt_le b b' → mt_le (mt_it f k b) (mt_it f k b') := by
  intro k
  induction k with
  | zero => intro b b' h; exact h
  | succ k ih => intro b b' h; exact ih _ _ (hf _ _ h)
/-- 'k' ticks by f, then all by g, keep the limits -/
def mt_ok (f g : (Nat → Int) → Nat → Int) (lim : Nat → Int) : Nat → (Nat → Int) → Prop
  | 0, b => ∀ i n, n < 6 → mt_it g i b n ≤ lim n
  | k + 1, b => (∀ n, n < 6 → b n ≤ lim n) ∧ mt_ok f g lim k (f b)
variable {f f' g : (Nat → Int) → Nat → Int} {lim : Nat → Int}
theorem mt_ok_now : ∀ {k : Nat} {b : Nat → Int}, mt_ok f g lim k b → ∀ n, n < 6 → b n ≤ lim n := by
  intro k b h
  cases k with
  | zero => exact h 0
  | succ k => exact h.1
theorem mt_ok_le (hf : ∀ b b', mt_le b b' → mt_le (f b) (f b')) (hg : ∀ b b', mt_le b b' → mt_le (g b) (g b')) : ∀ (k : Nat) (b b' : Nat → Int), mt_le b' b → mt_ok f g lim k b → mt_ok f g lim k b' := by
  intro k
  induction k with
  | zero => intro b b' hb h i n hn; exact Int.le_trans (mt_it_mono hg i b' b hb n (by omega)) (h i n hn)
  | succ k ih => intro b b' hb h; exact ⟨fun n hn => Int.le_trans (hb n (by omega)) (h.1 n hn), ih _ _ (hf _ _ hb) h.2⟩
theorem mt_ok_f (hf : ∀ b b', mt_le b b' → mt_le (f b) (f b')) (hf' : ∀ b b', mt_le b b' → mt_le (f' b) (f' b')) (hg : ∀ b b', mt_le b b' → mt_le (g b) (g b')) (hle : ∀ b, mt_le (f' b) (f b)) : ∀ (k : Nat) (b : Nat → Int), mt_ok f g lim k b → mt_ok f' g lim k b := by
  intro k
  induction k with
  | zero => intro b h; exact h
  | succ k ih => intro b h; exact ⟨h.1, ih _ (mt_ok_le hf hg k _ _ (hle b) h.2)⟩
theorem mt_ok_all : ∀ (k : Nat) (b : Nat → Int), mt_ok g g lim k b ↔ ∀ i n, n < 6 → mt_it g i b n ≤ lim n := by
  intro k
  induction k with
  | zero => intro b; exact Iff.rfl
  | succ k ih =>
    intro b
    constructor
    · intro h i n hn
      cases i with
      | zero => exact h.1 n hn
      | succ i => exact (ih (g b)).mp h.2 i n hn
    · intro h
      exact ⟨h 0, (ih (g b)).mpr fun i n hn => h (i + 1) n hn⟩
theorem mt_ok_any (k k' : Nat) (b : Nat → Int) (h : mt_ok g g lim k b) : mt_ok g g lim k' b := (mt_ok_all k' b).mpr ((mt_ok_all k b).mp h)
/-- nothing grows in a tick by g: then it never will -/
theorem mt_ok_calm (hg : ∀ b b', mt_le b b' → mt_le (g b) (g b')) {b : Nat → Int} (h : mt_le (g b) b) (hb : ∀ n, n < 6 → b n ≤ lim n) : ∀ i n, n < 6 → mt_it g i b n ≤ lim n := by
  have key : ∀ i, mt_le (mt_it g i b) b := by
    intro i
    induction i with
    | zero => intro n _; exact Int.le_refl _
    | succ i ih =>
      rw [mt_it_succ]
      intro n hn
      exact Int.le_trans (hg _ _ ih n hn) (h n hn)
  intro i n hn
  exact Int.le_trans (key i n (by omega)) (hb n hn)
/-- i ticks by g within the limits, and from there all is well *)-/
theorem mt_ok_path (b : Nat → Int) : ∀ k, (∀ j, j < k → ∀ n, n < 6 → mt_it g j b n ≤ lim n) → (∀ i n, n < 6 → mt_it g i (mt_it g k b) n ≤ lim n) → ∀ i n, n < 6 → mt_it g i b n ≤ lim n := by
  intro k
  induction k generalizing b with
  | zero => intro _ h; exact h
  | succ k ih =>
    intro h1 h2 i n hn
    cases i with
    | zero => exact h1 0 (by omega) n hn
    | succ i => exact ih (g b) (fun j hj n hn => h1 (j + 1) (by omega) n hn) h2 i n hn
/-- the true tick -/
def mt_G (rE tc : Nat → Int) (srcT : Nat → Int → Int) (t : Nat → Int) : Nat → Int := fun n => if n < 6 then t n + (srcT n (t n) + mt_sum (fun o => rE (7 * n + o) * (t o - t n)) 7) / tc n else t n
theorem mt_G_le (N : mt_nice hE lE lc hc) {rE tc : Nat → Int} {srcT : Nat → Int → Int} (hr : ∀ n o, n < 6 → o < 7 → lE (7 * n + o) ≤ rE (7 * n + o) ∧ rE (7 * n + o) ≤ hE (7 * n + o)) (ht : ∀ n, n < 6 → lc n ≤ tc n ∧ tc n ≤ hc n) (hs : ∀ n t, n < 6 → srcT n t ≤ src n t) (t : Nat → Int) : mt_le (mt_G rE tc srcT t) (mt_F hE lE lc hc src t) := by
  intro n hn
  unfold mt_G mt_F
  by_cases h6 : n < 6
  · rw [if_pos h6, if_pos h6]
    obtain ⟨e1, e2, e3⟩ := N.2 n h6
    have h1 : srcT n (t n) + mt_sum (fun o => rE (7 * n + o) * (t o - t n)) 7 ≤ mt_heat hE lE src t n := by
      unfold mt_heat
      have h2 := mt_sum_le (f := fun o => rE (7 * n + o) * (t o - t n)) (g := fun o => mt_w (hE (7 * n + o)) (lE (7 * n + o)) (t o - t n)) 7 (fun o ho => mt_w_ge (hr n o h6 ho).1 (hr n o h6 ho).2)
      have := hs n (t n) h6
      omega
    have := mt_g_true e1 (ht n h6).1 (ht n h6).2 h1
    omega
  · rw [if_neg h6, if_neg h6]; exact Int.le_refl _
theorem mt_G_nonneg (N : mt_nice hE lE lc hc) {rE tc : Nat → Int} {srcT : Nat → Int → Int} (hr : ∀ n o, n < 6 → o < 7 → lE (7 * n + o) ≤ rE (7 * n + o) ∧ rE (7 * n + o) ≤ hE (7 * n + o)) (ht : ∀ n, n < 6 → lc n ≤ tc n ∧ tc n ≤ hc n) {t : Nat → Int} (hs : ∀ n, n < 6 → 0 ≤ srcT n (t n)) (h0 : ∀ n, n < 7 → 0 ≤ t n) : ∀ n, n < 7 → 0 ≤ mt_G rE tc srcT t n := by
  intro n hn
  unfold mt_G
  by_cases h6 : n < 6
  · rw [if_pos h6]
    obtain ⟨e1, e2, e3⟩ := N.2 n h6
    have htc : 0 < tc n := by have := (ht n h6).1; omega
    have hx : mt_sum (fun o => - (hE (7 * n + o) * t n)) 7 ≤ mt_sum (fun o => rE (7 * n + o) * (t o - t n)) 7 := by
      refine mt_sum_le 7 (fun o ho => ?_)
      obtain ⟨a1, a2⟩ := N.1 n o h6 ho
      obtain ⟨a3, a4⟩ := hr n o h6 ho
      have b1 : 0 ≤ rE (7 * n + o) * t o := Int.mul_nonneg (by omega) (h0 o ho)
      have b2 : rE (7 * n + o) * t n ≤ hE (7 * n + o) * t n := Int.mul_le_mul_of_nonneg_right a4 (h0 n hn)
      have b3 : rE (7 * n + o) * (t o - t n) = rE (7 * n + o) * t o - rE (7 * n + o) * t n := Int.mul_sub ..
      show - (hE (7 * n + o) * t n) ≤ _
      omega
    have hy : mt_sum (fun o => - (hE (7 * n + o) * t n)) 7 = - (mt_sum (fun o => hE (7 * n + o)) 7 * t n) := by
      rw [← mt_sum_mul]
      simp only [mt_sum]
      omega
    have hz : mt_sum (fun o => hE (7 * n + o)) 7 * t n ≤ lc n * t n := Int.mul_le_mul_of_nonneg_right e3 (h0 n hn)
    have hw : lc n * t n ≤ tc n * t n := Int.mul_le_mul_of_nonneg_right (ht n h6).1 (h0 n hn)
    have hv : - t n ≤ (srcT n (t n) + mt_sum (fun o => rE (7 * n + o) * (t o - t n)) 7) / tc n := by
      rw [Int.le_ediv_iff_mul_le htc, Int.neg_mul, Int.mul_comm]
      have := hs n h6
      omega
    omega
  · rw [if_neg h6]; exact h0 n hn
end MF
