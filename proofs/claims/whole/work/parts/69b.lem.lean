/-! what the calls leave of the ranges -/
section LM
variable {a b c d e f : Nat → Int32}
theorem up_2 {v : Int32} {p : Int32 → Prop} {n j : Nat} (h1 : p v) (h2 : p (a j)) : p (upd a n v j) := by
  by_cases e : j = n
  · subst e; rw [pk_us]; exact h1
  · rw [pk_un e]; exact h2
theorem cf_C_up (h : cf_C a b) {n : Nat} {lo hi : Int32} (h1 : 1 ≤ lo.toInt) (h2 : lo.toInt ≤ hi.toInt) (h3 : hi.toInt ≤ 10000) : cf_C (upd a n lo) (upd b n hi) := by
  intro j hj
  by_cases e : j = n
  · subst e; rw [pk_us, pk_us]; exact ⟨h1, h2, h3⟩
  · rw [pk_un e, pk_un e]; exact h j hj
theorem cf_T_cap (h : cf_T a b c d e f) {n : Nat} {lo hi : Int32} (h2 : lo.toInt ≤ hi.toInt) : cf_T (upd a n lo) (upd b n hi) (upd c n lo) d e f := by
  refine ⟨fun j hj => ?_, h.2⟩
  by_cases e : j = n
  · subst e; rw [pk_us, pk_us, pk_us]; exact ⟨Int.le_refl _, h2⟩
  · rw [pk_un e, pk_un e, pk_un e]; exact h.1 j hj
theorem cf_T_tru (h : cf_T a b c d e f) {n : Nat} {v : Int32} (h1 : (a n).toInt ≤ v.toInt) (h2 : v.toInt ≤ (b n).toInt) : cf_T a b (upd c n v) d e f := by
  refine ⟨fun j hj => ?_, h.2⟩
  by_cases e : j = n
  · subst e; rw [pk_us]; exact ⟨h1, h2⟩
  · rw [pk_un e]; exact h.1 j hj
theorem cf_E_up (h : cf_E a b) {i j : Nat} {lo hi : Int32} (h1 : 0 ≤ lo.toInt) (h2 : lo.toInt ≤ hi.toInt) (h3 : hi.toInt ≤ 500) : cf_E (upd (upd a i lo) j lo) (upd (upd b i hi) j hi) := by
  intro n q hn hq
  by_cases e : 7 * n + q = j
  · rw [e, pk_us, pk_us]; exact ⟨h1, h2, h3⟩
  · rw [pk_un e, pk_un e]
    by_cases e2 : 7 * n + q = i
    · rw [e2, pk_us, pk_us]; exact ⟨h1, h2, h3⟩
    · rw [pk_un e2, pk_un e2]; exact h n q hn hq
theorem cf_T_edge (h : cf_T a b c d e f) {i j : Nat} {lo hi : Int32} (h2 : lo.toInt ≤ hi.toInt) : cf_T a b c (upd (upd d i lo) j lo) (upd (upd e i hi) j hi) (upd (upd f i lo) j lo) := by
  refine ⟨h.1, fun n q hn hq => ?_⟩
  by_cases e : 7 * n + q = j
  · rw [e, pk_us, pk_us, pk_us]; exact ⟨Int.le_refl _, h2⟩
  · rw [pk_un e, pk_un e, pk_un e]
    by_cases e2 : 7 * n + q = i
    · rw [e2, pk_us, pk_us, pk_us]; exact ⟨Int.le_refl _, h2⟩
    · rw [pk_un e2, pk_un e2, pk_un e2]; exact h.2 n q hn hq
/-- the edges stand there both ways -/
def cf_Sy (d e : Nat → Int32) : Prop := ∀ n q : Nat, n < 7 → q < 7 → d (7 * n + q) = d (7 * q + n) ∧ e (7 * n + q) = e (7 * q + n)
theorem cf_T_true (h : cf_T a b c d e f) (hs : cf_Sy d e) {n q : Nat} (hn : n < 7) (hq : q < 7) {v : Int32} (h1 : (d (7 * n + q)).toInt ≤ v.toInt) (h2 : v.toInt ≤ (e (7 * n + q)).toInt) : cf_T a b c d e (upd (upd f (7 * n + q) v) (7 * q + n) v) := by
  refine ⟨h.1, fun i j hi hj => ?_⟩
  by_cases e9 : 7 * i + j = 7 * q + n
  · rw [e9, pk_us, ← (hs n q hn hq).1, ← (hs n q hn hq).2]; exact ⟨h1, h2⟩
  · rw [pk_un e9]
    by_cases e2 : 7 * i + j = 7 * n + q
    · rw [e2, pk_us]; exact ⟨h1, h2⟩
    · rw [pk_un e2]; exact h.2 i j hi hj
theorem cf_Sy_up (hs : cf_Sy d e) {n q : Nat} (hn : n < 7) (hq : q < 7) {lo hi_ : Int32} : cf_Sy (upd (upd d (n * 7 + q) lo) (q * 7 + n) lo) (upd (upd e (n * 7 + q) hi_) (q * 7 + n) hi_) := by
  have at1 : ∀ (g : Nat → Int32) (v : Int32) (i j : Nat), i < 7 → j < 7 → upd (upd g (n * 7 + q) v) (q * 7 + n) v (7 * i + j) = if (i = n ∧ j = q) ∨ (i = q ∧ j = n) then v else g (7 * i + j) := by
    intro g v i j hi hj
    by_cases e1 : 7 * i + j = q * 7 + n
    · rw [e1, pk_us, if_pos (by omega)]
    · rw [pk_un e1]
      by_cases e2 : 7 * i + j = n * 7 + q
      · rw [e2, pk_us, if_pos (by omega)]
      · rw [pk_un e2, if_neg (by omega)]
  intro i j hi hj
  rw [at1 d lo i j hi hj, at1 d lo j i hj hi, at1 e hi_ i j hi hj, at1 e hi_ j i hj hi]
  by_cases h : (i = n ∧ j = q) ∨ (i = q ∧ j = n)
  · rw [if_pos h, if_pos (by omega), if_pos h, if_pos (by omega)]; exact ⟨rfl, rfl⟩
  · rw [if_neg h, if_neg (by omega), if_neg h, if_neg (by omega)]; exact hs i j hi hj
theorem n_clamp {v : Int32} (h : 0 ≤ v.toInt) : ((v.toNatClampNeg : Nat) : Int) = v.toInt := by
  have : v.toNatClampNeg = v.toInt.toNat := rfl
  omega
end LM
section LN
theorem up_eq {a b : Nat → Int32} {n j : Nat} {v : Int32} (h : a j = b j) : upd a n v j = upd b n v j := by
  by_cases e : j = n
  · subst e; rw [pk_us, pk_us]
  · rw [pk_un e, pk_un e]; exact h
theorem up_al {a b : Nat → Int32} {n j : Nat} {v : Int32} (hv : v = 0 ∨ v = 1) (h : a j = 0 ↔ ¬ b j = 0) : upd a n v j = 0 ↔ ¬ upd b n (if v = 0 then nI 1 else nI 0) j = 0 := by
  by_cases e : j = n
  · subst e
    rw [pk_us, pk_us]
    rcases hv with rfl | rfl
    · rw [if_pos rfl]; exact ⟨fun _ => by decide, fun _ => rfl⟩
    · rw [if_neg (by decide)]; exact ⟨fun q => absurd q (by decide), fun q => absurd (by decide) q⟩
  · rw [pk_un e, pk_un e]; exact h
end LN
theorem l_32 {v : Int32} {w : Int64} {t : Int} (h1 : v.toInt = t) (h2 : w.toInt = t) : v = w.toInt32 := by
  refine n_eq.mpr ?_
  have h := n_ran v
  rw [Int64.toInt_toInt32, h2, ← h1, Int.bmod_eq_of_le (by omega) (by omega)]
