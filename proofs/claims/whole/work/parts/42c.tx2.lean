section TXe
variable {p : Program} {l : Launch} {e : Env} {R : Room} {s : State} {m : MethodId} {args : Array Value} {below : List Frame} {meth : Method} {c : Code} {Q : State → Prop}
variable {pc : Nat} {ls : Array Slot} {rest st0 : List Value} {D : va_G} {cl : List vw_C}
/-- a call that has no cells: the heap is what it was -/
theorem ke_i0 {S : Type} {post : Int32 → S → Prop} {B : S → State → Prop} {a : Array Value} (hr : va_Run p l e R s m args below meth c s.heap [] 0 0 0 0 (F0 m pc ls st0) rest (va_Qi post B (va_A [] s.heap.size) a) (va_A [] s.heap.size))
    (kk : ∀ (r : Int32) (u : S), post r u → W p l e R s m args below meth c s.heap [] 0 0 Q (F0 m (pc + 3) ls (.int r :: rest))) : W p l e R s m args below meth c s.heap [] 0 0 Q (F0 m pc ls st0) := by
  intro T hT X
  obtain ⟨v, st₀, t, T', L, h0, X', hL, e1, e2, ⟨⟨r, u, ho, hpost, hB⟩, hF⟩, hgo⟩ := hr T hT X
  cases ho
  have hsz : T'.heap.size ≤ s.heap.size := X'.heapSize
  have hge : s.heap.size ≤ T'.heap.size := X'.same.2.1
  have hheap : T'.heap = T.heap := by
    rw [hT]
    refine Array.ext_getElem? fun q => ?_
    by_cases hq : q < s.heap.size
    · rw [e1]
      rw [← h0] at hq
      have hz : ¬ va_A [] s.heap.size q := by
        intro z
        rcases z with ⟨k, e9, z⟩ | z
        · cases z
        · rw [h0] at hq; omega
      rw [hF.2 q hq hz, h0]
    · rw [Array.getElem?_eq_none (by omega), Array.getElem?_eq_none (by omega)]
  obtain ⟨t2, b1, b2⟩ := kk r u hpost T' (by rw [hheap, hT]) (tx_refund X X' hheap)
  exact ⟨t2, hgo _ b1, b2⟩
end TXe
