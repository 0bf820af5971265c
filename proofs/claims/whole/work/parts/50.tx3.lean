section TXf
variable {p : Program} {l : Launch} {e : Env} {R : Room} {s : State} {m : MethodId} {args : Array Value} {below : List Frame} {meth : Method} {c : Code} {H : Heap} {locs : List Loc} {cells slots mc ms : Nat} {Q : State → Prop}
variable {pc : Nat} {ls : Array Slot} {rest st0 : List Value}
/-- a call of a method that returns or throws: both roads -/
theorem tx_two {Qa : State → Outcome → State → Prop} {free : Addr → Prop} (hr : tx_Run p l e R s m args below meth c H locs cells slots mc ms (F0 m pc ls st0) rest Qa free)
    (kr : ∀ (v : Option Value) (st₀ t : State) (H1 : Heap) (L : List Loc), st₀.heap = H → s.vm.Alike st₀.vm → t.heap = H1 → Qa st₀ (.returned v) t → (∀ q ∈ L, free q.base) → W p l e R s m args below meth c H1 (locs ++ L) (cells + mc) (slots + ms) Q (F0 m (pc + 3) ls (v.toList ++ rest)))
    (kt : ∀ (x : Addr) (st₀ t : State) (H1 : Heap) (L : List Loc), st₀.heap = H → s.vm.Alike st₀.vm → t.heap = H1 → Qa st₀ (.threw x) t → (∀ q ∈ L, free q.base) → tx_T p l e R s m args below meth c H1 (locs ++ L) (cells + mc) (slots + ms) Q (F0 m pc ls rest) x) : W p l e R s m args below meth c H locs cells slots Q (F0 m pc ls st0) := by
  intro T hT X
  obtain ⟨o, st₀, t, T', L, h0, hal, X', hL, e1, e2, hq, hc⟩ := hr T hT X
  rcases hc with ⟨v, rfl, hgo⟩ | ⟨x, rfl, hst⟩
  · obtain ⟨t2, b1, b2⟩ := kr v st₀ t T'.heap L h0 hal e1.symm hq hL T' rfl X'
    exact ⟨t2, hgo _ b1, b2⟩
  · obtain ⟨t2, b1, b2⟩ := kt x st₀ t T'.heap L h0 hal e1.symm hq hL T' rfl X'
    exact ⟨t2, hst.trans b1, b2⟩
end TXf
