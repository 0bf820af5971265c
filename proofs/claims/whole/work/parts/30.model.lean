def p_mIsNode (n : Int32) : Int32 := if n < 0 then (nI 0) else (if (nI 6) ≤ n then (nI 0) else (nI 1))
set_option maxHeartbeats 1000000 in
set_option maxRecDepth 100000 in
theorem c_mIsNode (l : Launch) {z : State} {za : Array Value} (zh : ∀ w ∈ lw_tbl, w.before za z = true) (D : va_G) (cI cZ cJ : ClassId) (sz : Nat) (n : Int32) :
    Met l y_Model_isNode [Cond.code y_Model_isNode prog_7_method_4_code 1 (some .boolean)] { frames := 0, cells := 0, slots := 0, locals := 0 } (va_Pc [.int n] (PreW z D classes cI cZ cJ sz [])) (va_Qi (fun (r : Int32) (_ : Unit) => r = p_mIsNode n) (fun u => PostW D classes (va_A [] sz) []) (va_A [] sz)) 0 0 (va_A [] sz) := by
  refine Met.ofQ (cc := prog_7_method_4_code) (maxL := 1) (ret := (some .boolean)) (by decide +kernel) rfl ?_
  intro p e s m args below meth c s₁ Q B hml hv hQ
  obtain ⟨rfl, rfl, hZ, hP, hK, hD0⟩ := hv
  have hx := B.exec
  have hb := B.bytes
  have hr := B.returns
  have hown : s.vm.findClass R_Model = some m.cls := findClass_of_methodNamed B.named
  have hlocks := B.notSynchronized
  clear B
  have hD := hD0.self (sz := s.heap.size)
  generalize hAe : va_A [] s.heap.size = A at hD hQ
  have hA : ∀ q : Nat, s.heap.size ≤ q → A q := fun q h => by rw [← hAe]; exact Or.inr h
  clear hAe hD0
  have hS : va_S A s.heap s.heap [] := va_S.rf
  have hl := lv_entry ([.int n]) (n := 1) (Nat.le_of_ble_eq_true rfl)
  rw [lg_entry_eq]
  generalize (lg_sl ([.int n]) ++ List.replicate (1 - (lg_sl ([.int n])).length) Slot.unset).toArray = ls at hl ⊢
  have hl : lv_has ls 1 [(0, .int n)] := hl
  have hR : p_mIsNode n = (if n < 0 then (nI 0) else (if (nI 6) ≤ n then (nI 0) else (nI 1))) := rfl
  refine lv_iload_n hx hb d_Model_isNode_0 rfl (lv_at hl 0 rfl) ?_
  refine lv_if_lt (tgt := 14) hx hb d_Model_isNode_1 (by decide) (fun h1 => ?_) (fun h1 => ?_)
  · have hR := hR.trans (if_pos h1)
    refine lv_iconst (v := nI 0) hx hb d_Model_isNode_14 (by decide) ?_
    exact (W.zret (v := nI 0) (ty := .boolean) hx hb hr rfl (fun t9 ht hW => ⟨⟨nI 0, (), rfl, hR.symm, by rw [ht]; exact hP, hD⟩, hS.F ht⟩) hS.2.2 d_Model_isNode_15).mono hQ
  · have hR := hR.trans (if_neg h1)
    refine lv_iload_n hx hb d_Model_isNode_4 rfl (lv_at hl 0 rfl) ?_
    refine lv_bipush (v := nI 6) hx hb d_Model_isNode_5 (by decide) ?_
    refine lv_icmp_ge (tgt := 14) hx hb d_Model_isNode_7 (by decide) (fun h2 => ?_) (fun h2 => ?_)
    · have hR := hR.trans (if_pos h2)
      refine lv_iconst (v := nI 0) hx hb d_Model_isNode_14 (by decide) ?_
      exact (W.zret (v := nI 0) (ty := .boolean) hx hb hr rfl (fun t9 ht hW => ⟨⟨nI 0, (), rfl, hR.symm, by rw [ht]; exact hP, hD⟩, hS.F ht⟩) hS.2.2 d_Model_isNode_15).mono hQ
    · have hR := hR.trans (if_neg h2)
      refine lv_iconst (v := nI 1) hx hb d_Model_isNode_10 (by decide) ?_
      refine lv_goto (tgt := 15) hx hb d_Model_isNode_11 (by decide) ?_
      exact (W.zret (v := nI 1) (ty := .boolean) hx hb hr rfl (fun t9 ht hW => ⟨⟨nI 1, (), rfl, hR.symm, by rw [ht]; exact hP, hD⟩, hS.F ht⟩) hS.2.2 d_Model_isNode_15).mono hQ
def p_mIsCore (c1 : Int32) : Int32 := if c1 < 0 then (nI 0) else (if (nI 4) ≤ c1 then (nI 0) else (nI 1))
set_option maxHeartbeats 1000000 in
set_option maxRecDepth 100000 in
theorem c_mIsCore (l : Launch) {z : State} {za : Array Value} (zh : ∀ w ∈ lw_tbl, w.before za z = true) (D : va_G) (cI cZ cJ : ClassId) (sz : Nat) (c1 : Int32) :
    Met l y_Model_isCore [Cond.code y_Model_isCore prog_7_method_5_code 1 (some .boolean)] { frames := 0, cells := 0, slots := 0, locals := 0 } (va_Pc [.int c1] (PreW z D classes cI cZ cJ sz [])) (va_Qi (fun (r : Int32) (_ : Unit) => r = p_mIsCore c1) (fun u => PostW D classes (va_A [] sz) []) (va_A [] sz)) 0 0 (va_A [] sz) := by
  refine Met.ofQ (cc := prog_7_method_5_code) (maxL := 1) (ret := (some .boolean)) (by decide +kernel) rfl ?_
  intro p e s m args below meth c s₁ Q B hml hv hQ
  obtain ⟨rfl, rfl, hZ, hP, hK, hD0⟩ := hv
  have hx := B.exec
  have hb := B.bytes
  have hr := B.returns
  have hown : s.vm.findClass R_Model = some m.cls := findClass_of_methodNamed B.named
  have hlocks := B.notSynchronized
  clear B
  have hD := hD0.self (sz := s.heap.size)
  generalize hAe : va_A [] s.heap.size = A at hD hQ
  have hA : ∀ q : Nat, s.heap.size ≤ q → A q := fun q h => by rw [← hAe]; exact Or.inr h
  clear hAe hD0
  have hS : va_S A s.heap s.heap [] := va_S.rf
  have hl := lv_entry ([.int c1]) (n := 1) (Nat.le_of_ble_eq_true rfl)
  rw [lg_entry_eq]
  generalize (lg_sl ([.int c1]) ++ List.replicate (1 - (lg_sl ([.int c1])).length) Slot.unset).toArray = ls at hl ⊢
  have hl : lv_has ls 1 [(0, .int c1)] := hl
  have hR : p_mIsCore c1 = (if c1 < 0 then (nI 0) else (if (nI 4) ≤ c1 then (nI 0) else (nI 1))) := rfl
  refine lv_iload_n hx hb d_Model_isCore_0 rfl (lv_at hl 0 rfl) ?_
  refine lv_if_lt (tgt := 13) hx hb d_Model_isCore_1 (by decide) (fun h1 => ?_) (fun h1 => ?_)
  · have hR := hR.trans (if_pos h1)
    refine lv_iconst (v := nI 0) hx hb d_Model_isCore_13 (by decide) ?_
    exact (W.zret (v := nI 0) (ty := .boolean) hx hb hr rfl (fun t9 ht hW => ⟨⟨nI 0, (), rfl, hR.symm, by rw [ht]; exact hP, hD⟩, hS.F ht⟩) hS.2.2 d_Model_isCore_14).mono hQ
  · have hR := hR.trans (if_neg h1)
    refine lv_iload_n hx hb d_Model_isCore_4 rfl (lv_at hl 0 rfl) ?_
    refine lv_iconst (v := nI 4) hx hb d_Model_isCore_5 (by decide) ?_
    refine lv_icmp_ge (tgt := 13) hx hb d_Model_isCore_6 (by decide) (fun h2 => ?_) (fun h2 => ?_)
    · have hR := hR.trans (if_pos h2)
      refine lv_iconst (v := nI 0) hx hb d_Model_isCore_13 (by decide) ?_
      exact (W.zret (v := nI 0) (ty := .boolean) hx hb hr rfl (fun t9 ht hW => ⟨⟨nI 0, (), rfl, hR.symm, by rw [ht]; exact hP, hD⟩, hS.F ht⟩) hS.2.2 d_Model_isCore_14).mono hQ
    · have hR := hR.trans (if_neg h2)
      refine lv_iconst (v := nI 1) hx hb d_Model_isCore_9 (by decide) ?_
      refine lv_goto (tgt := 14) hx hb d_Model_isCore_10 (by decide) ?_
      exact (W.zret (v := nI 1) (ty := .boolean) hx hb hr rfl (fun t9 ht hW => ⟨⟨nI 1, (), rfl, hR.symm, by rw [ht]; exact hP, hD⟩, hS.F ht⟩) hS.2.2 d_Model_isCore_14).mono hQ
def p_mIsEnd (n : Int32) : Int32 := if n < 0 then (nI 0) else (if (nI 6) < n then (nI 0) else (nI 1))
set_option maxHeartbeats 1000000 in
set_option maxRecDepth 100000 in
theorem c_mIsEnd (l : Launch) {z : State} {za : Array Value} (zh : ∀ w ∈ lw_tbl, w.before za z = true) (D : va_G) (cI cZ cJ : ClassId) (sz : Nat) (n : Int32) :
    Met l y_Model_isEnd [Cond.code y_Model_isEnd prog_7_method_6_code 1 (some .boolean)] { frames := 0, cells := 0, slots := 0, locals := 0 } (va_Pc [.int n] (PreW z D classes cI cZ cJ sz [])) (va_Qi (fun (r : Int32) (_ : Unit) => r = p_mIsEnd n) (fun u => PostW D classes (va_A [] sz) []) (va_A [] sz)) 0 0 (va_A [] sz) := by
  refine Met.ofQ (cc := prog_7_method_6_code) (maxL := 1) (ret := (some .boolean)) (by decide +kernel) rfl ?_
  intro p e s m args below meth c s₁ Q B hml hv hQ
  obtain ⟨rfl, rfl, hZ, hP, hK, hD0⟩ := hv
  have hx := B.exec
  have hb := B.bytes
  have hr := B.returns
  have hown : s.vm.findClass R_Model = some m.cls := findClass_of_methodNamed B.named
  have hlocks := B.notSynchronized
  clear B
  have hD := hD0.self (sz := s.heap.size)
  generalize hAe : va_A [] s.heap.size = A at hD hQ
  have hA : ∀ q : Nat, s.heap.size ≤ q → A q := fun q h => by rw [← hAe]; exact Or.inr h
  clear hAe hD0
  have hS : va_S A s.heap s.heap [] := va_S.rf
  have hl := lv_entry ([.int n]) (n := 1) (Nat.le_of_ble_eq_true rfl)
  rw [lg_entry_eq]
  generalize (lg_sl ([.int n]) ++ List.replicate (1 - (lg_sl ([.int n])).length) Slot.unset).toArray = ls at hl ⊢
  have hl : lv_has ls 1 [(0, .int n)] := hl
  have hR : p_mIsEnd n = (if n < 0 then (nI 0) else (if (nI 6) < n then (nI 0) else (nI 1))) := rfl
  refine lv_iload_n hx hb d_Model_isEnd_0 rfl (lv_at hl 0 rfl) ?_
  refine lv_if_lt (tgt := 14) hx hb d_Model_isEnd_1 (by decide) (fun h1 => ?_) (fun h1 => ?_)
  · have hR := hR.trans (if_pos h1)
    refine lv_iconst (v := nI 0) hx hb d_Model_isEnd_14 (by decide) ?_
    exact (W.zret (v := nI 0) (ty := .boolean) hx hb hr rfl (fun t9 ht hW => ⟨⟨nI 0, (), rfl, hR.symm, by rw [ht]; exact hP, hD⟩, hS.F ht⟩) hS.2.2 d_Model_isEnd_15).mono hQ
  · have hR := hR.trans (if_neg h1)
    refine lv_iload_n hx hb d_Model_isEnd_4 rfl (lv_at hl 0 rfl) ?_
    refine lv_bipush (v := nI 6) hx hb d_Model_isEnd_5 (by decide) ?_
    refine lv_icmp_gt (tgt := 14) hx hb d_Model_isEnd_7 (by decide) (fun h2 => ?_) (fun h2 => ?_)
    · have hR := hR.trans (if_pos h2)
      refine lv_iconst (v := nI 0) hx hb d_Model_isEnd_14 (by decide) ?_
      exact (W.zret (v := nI 0) (ty := .boolean) hx hb hr rfl (fun t9 ht hW => ⟨⟨nI 0, (), rfl, hR.symm, by rw [ht]; exact hP, hD⟩, hS.F ht⟩) hS.2.2 d_Model_isEnd_15).mono hQ
    · have hR := hR.trans (if_neg h2)
      refine lv_iconst (v := nI 1) hx hb d_Model_isEnd_10 (by decide) ?_
      refine lv_goto (tgt := 15) hx hb d_Model_isEnd_11 (by decide) ?_
      exact (W.zret (v := nI 1) (ty := .boolean) hx hb hr rfl (fun t9 ht hW => ⟨⟨nI 1, (), rfl, hR.symm, by rw [ht]; exact hP, hD⟩, hS.F ht⟩) hS.2.2 d_Model_isEnd_15).mono hQ
def p_mIsWithin (v : Int32) (least : Int32) (most : Int32) : Int32 := if v < least then (nI 0) else (if most < v then (nI 0) else (nI 1))
set_option maxHeartbeats 1000000 in
set_option maxRecDepth 100000 in
theorem c_mIsWithin (l : Launch) {z : State} {za : Array Value} (zh : ∀ w ∈ lw_tbl, w.before za z = true) (D : va_G) (cI cZ cJ : ClassId) (sz : Nat) (v : Int32) (least : Int32) (most : Int32) :
    Met l y_Model_isWithin [Cond.code y_Model_isWithin prog_7_method_7_code 3 (some .boolean)] { frames := 0, cells := 0, slots := 0, locals := 0 } (va_Pc [.int v, .int least, .int most] (PreW z D classes cI cZ cJ sz [])) (va_Qi (fun (r : Int32) (_ : Unit) => r = p_mIsWithin v least most) (fun u => PostW D classes (va_A [] sz) []) (va_A [] sz)) 0 0 (va_A [] sz) := by
  refine Met.ofQ (cc := prog_7_method_7_code) (maxL := 3) (ret := (some .boolean)) (by decide +kernel) rfl ?_
  intro p e s m args below meth c s₁ Q B hml hv hQ
  obtain ⟨rfl, rfl, hZ, hP, hK, hD0⟩ := hv
  have hx := B.exec
  have hb := B.bytes
  have hr := B.returns
  have hown : s.vm.findClass R_Model = some m.cls := findClass_of_methodNamed B.named
  have hlocks := B.notSynchronized
  clear B
  have hD := hD0.self (sz := s.heap.size)
  generalize hAe : va_A [] s.heap.size = A at hD hQ
  have hA : ∀ q : Nat, s.heap.size ≤ q → A q := fun q h => by rw [← hAe]; exact Or.inr h
  clear hAe hD0
  have hS : va_S A s.heap s.heap [] := va_S.rf
  have hl := lv_entry ([.int v, .int least, .int most]) (n := 3) (Nat.le_of_ble_eq_true rfl)
  rw [lg_entry_eq]
  generalize (lg_sl ([.int v, .int least, .int most]) ++ List.replicate (3 - (lg_sl ([.int v, .int least, .int most])).length) Slot.unset).toArray = ls at hl ⊢
  have hl : lv_has ls 3 [(0, .int v), (1, .int least), (2, .int most)] := hl
  have hR : p_mIsWithin v least most = (if v < least then (nI 0) else (if most < v then (nI 0) else (nI 1))) := rfl
  refine lv_iload_n hx hb d_Model_isWithin_0 rfl (lv_at hl 0 rfl) ?_
  refine lv_iload_n hx hb d_Model_isWithin_1 rfl (lv_at hl 1 rfl) ?_
  refine lv_icmp_lt (tgt := 14) hx hb d_Model_isWithin_2 (by decide) (fun h1 => ?_) (fun h1 => ?_)
  · have hR := hR.trans (if_pos h1)
    refine lv_iconst (v := nI 0) hx hb d_Model_isWithin_14 (by decide) ?_
    exact (W.zret (v := nI 0) (ty := .boolean) hx hb hr rfl (fun t9 ht hW => ⟨⟨nI 0, (), rfl, hR.symm, by rw [ht]; exact hP, hD⟩, hS.F ht⟩) hS.2.2 d_Model_isWithin_15).mono hQ
  · have hR := hR.trans (if_neg h1)
    refine lv_iload_n hx hb d_Model_isWithin_5 rfl (lv_at hl 0 rfl) ?_
    refine lv_iload_n hx hb d_Model_isWithin_6 rfl (lv_at hl 2 rfl) ?_
    refine lv_icmp_gt (tgt := 14) hx hb d_Model_isWithin_7 (by decide) (fun h2 => ?_) (fun h2 => ?_)
    · have hR := hR.trans (if_pos h2)
      refine lv_iconst (v := nI 0) hx hb d_Model_isWithin_14 (by decide) ?_
      exact (W.zret (v := nI 0) (ty := .boolean) hx hb hr rfl (fun t9 ht hW => ⟨⟨nI 0, (), rfl, hR.symm, by rw [ht]; exact hP, hD⟩, hS.F ht⟩) hS.2.2 d_Model_isWithin_15).mono hQ
    · have hR := hR.trans (if_neg h2)
      refine lv_iconst (v := nI 1) hx hb d_Model_isWithin_10 (by decide) ?_
      refine lv_goto (tgt := 15) hx hb d_Model_isWithin_11 (by decide) ?_
      exact (W.zret (v := nI 1) (ty := .boolean) hx hb hr rfl (fun t9 ht hW => ⟨⟨nI 1, (), rfl, hR.symm, by rw [ht]; exact hP, hD⟩, hS.F ht⟩) hS.2.2 d_Model_isWithin_15).mono hQ
def p_mUnsealed (qsealed : Int32) (there : Int32) (right : Int32) : Int32 × Int32 := if there = 0 then (nI 1, nI 1) else (if right = 0 then (nI 2, nI 2) else (if qsealed = 0 then (nI 0, nI 0) else (nI 3, nI 3)))
set_option maxHeartbeats 1000000 in
set_option maxRecDepth 100000 in
theorem c_mUnsealed (l : Launch) {z : State} {za : Array Value} (zh : ∀ w ∈ lw_tbl, w.before za z = true) (D : va_G) (cI cZ cJ : ClassId) (a_model : Nat) (a_qlowCap : Nat) (a_qhighCap : Nat) (a_qtruCap : Nat) (a_qlow : Nat) (a_qhigh : Nat) (a_qreal : Nat) (a_qlimits : Nat) (a_qpow : Nat) (a_qwarm : Nat) (a_qbounds : Nat) (a_qpeaks : Nat) (a_qnext : Nat) (a_qprobe : Nat) (a_qerrors : Nat) (a_qdead : Nat) (a_qsteps : Nat) (a_qtried : Nat) (a_qwishes : Nat) (a_qranks : Nat) (a_qwaits : Nat) (a_qdraws : Nat) (sz : Nat) (qthrown : Int32) (qsealed : Int32) (qairLow : Int32) (qairTrue : Int32) (qairHigh : Int32) (qbase : Int32) (qslope : Int32) (qsteep : Int32) (qknee : Int32) (qleft : Int32) (there : Int32) (right : Int32) :
    Met l y_Model_unsealed [Cond.code y_Model_unsealed prog_7_method_8_code 3 (some .int)] { frames := 0, cells := 0, slots := 0, locals := 0 } (va_Pc [.ref a_model, .int there, .int right] (PreW z D classes cI cZ cJ sz [(a_model, .inr (5, [.int qthrown, .int qsealed, .ref a_qlowCap, .ref a_qhighCap, .ref a_qtruCap, .ref a_qlow, .ref a_qhigh, .ref a_qreal, .ref a_qlimits, .int qairLow, .int qairTrue, .int qairHigh, .ref a_qpow, .int qbase, .int qslope, .int qsteep, .int qknee, .ref a_qwarm, .ref a_qbounds, .ref a_qpeaks, .ref a_qnext, .ref a_qprobe, .ref a_qerrors, .ref a_qdead, .ref a_qsteps, .ref a_qtried, .ref a_qwishes, .ref a_qranks, .ref a_qwaits, .ref a_qdraws, .int qleft]))])) (va_Qi (fun (r : Int32) (u : Int32) => (r, u) = p_mUnsealed qsealed there right) (fun u => PostW D classes (va_A [(a_model, .inr (5, [.int qthrown, .int qsealed, .ref a_qlowCap, .ref a_qhighCap, .ref a_qtruCap, .ref a_qlow, .ref a_qhigh, .ref a_qreal, .ref a_qlimits, .int qairLow, .int qairTrue, .int qairHigh, .ref a_qpow, .int qbase, .int qslope, .int qsteep, .int qknee, .ref a_qwarm, .ref a_qbounds, .ref a_qpeaks, .ref a_qnext, .ref a_qprobe, .ref a_qerrors, .ref a_qdead, .ref a_qsteps, .ref a_qtried, .ref a_qwishes, .ref a_qranks, .ref a_qwaits, .ref a_qdraws, .int qleft]))] sz) [(a_model, .inr (5, [.int u, .int qsealed, .ref a_qlowCap, .ref a_qhighCap, .ref a_qtruCap, .ref a_qlow, .ref a_qhigh, .ref a_qreal, .ref a_qlimits, .int qairLow, .int qairTrue, .int qairHigh, .ref a_qpow, .int qbase, .int qslope, .int qsteep, .int qknee, .ref a_qwarm, .ref a_qbounds, .ref a_qpeaks, .ref a_qnext, .ref a_qprobe, .ref a_qerrors, .ref a_qdead, .ref a_qsteps, .ref a_qtried, .ref a_qwishes, .ref a_qranks, .ref a_qwaits, .ref a_qdraws, .int qleft]))]) (va_A [(a_model, .inr (5, [.int qthrown, .int qsealed, .ref a_qlowCap, .ref a_qhighCap, .ref a_qtruCap, .ref a_qlow, .ref a_qhigh, .ref a_qreal, .ref a_qlimits, .int qairLow, .int qairTrue, .int qairHigh, .ref a_qpow, .int qbase, .int qslope, .int qsteep, .int qknee, .ref a_qwarm, .ref a_qbounds, .ref a_qpeaks, .ref a_qnext, .ref a_qprobe, .ref a_qerrors, .ref a_qdead, .ref a_qsteps, .ref a_qtried, .ref a_qwishes, .ref a_qranks, .ref a_qwaits, .ref a_qdraws, .int qleft]))] sz)) 0 0 (va_A [(a_model, .inr (5, [.int qthrown, .int qsealed, .ref a_qlowCap, .ref a_qhighCap, .ref a_qtruCap, .ref a_qlow, .ref a_qhigh, .ref a_qreal, .ref a_qlimits, .int qairLow, .int qairTrue, .int qairHigh, .ref a_qpow, .int qbase, .int qslope, .int qsteep, .int qknee, .ref a_qwarm, .ref a_qbounds, .ref a_qpeaks, .ref a_qnext, .ref a_qprobe, .ref a_qerrors, .ref a_qdead, .ref a_qsteps, .ref a_qtried, .ref a_qwishes, .ref a_qranks, .ref a_qwaits, .ref a_qdraws, .int qleft]))] sz) := by
  refine Met.ofQ (cc := prog_7_method_8_code) (maxL := 3) (ret := (some .int)) (by decide +kernel) rfl ?_
  intro p e s m args below meth c s₁ Q B hml hv hQ
  obtain ⟨rfl, rfl, hZ, hP, hK, hD0⟩ := hv
  have hx := B.exec
  have hb := B.bytes
  have hr := B.returns
  have hown : s.vm.findClass R_Model = some m.cls := findClass_of_methodNamed B.named
  have hlocks := B.notSynchronized
  clear B
  have hD := hD0.self (sz := s.heap.size)
  generalize hAe : va_A [(a_model, .inr (5, [.int qthrown, .int qsealed, .ref a_qlowCap, .ref a_qhighCap, .ref a_qtruCap, .ref a_qlow, .ref a_qhigh, .ref a_qreal, .ref a_qlimits, .int qairLow, .int qairTrue, .int qairHigh, .ref a_qpow, .int qbase, .int qslope, .int qsteep, .int qknee, .ref a_qwarm, .ref a_qbounds, .ref a_qpeaks, .ref a_qnext, .ref a_qprobe, .ref a_qerrors, .ref a_qdead, .ref a_qsteps, .ref a_qtried, .ref a_qwishes, .ref a_qranks, .ref a_qwaits, .ref a_qdraws, .int qleft]))] s.heap.size = A at hD hQ
  have hA : ∀ q : Nat, s.heap.size ≤ q → A q := fun q h => by rw [← hAe]; exact Or.inr h
  clear hAe hD0
  have hS : va_S A s.heap s.heap [] := va_S.rf
  have hl := lv_entry ([.ref a_model, .int there, .int right]) (n := 3) (Nat.le_of_ble_eq_true rfl)
  rw [lg_entry_eq]
  generalize (lg_sl ([.ref a_model, .int there, .int right]) ++ List.replicate (3 - (lg_sl ([.ref a_model, .int there, .int right])).length) Slot.unset).toArray = ls at hl ⊢
  have hl : lv_has ls 3 [(0, .ref a_model), (1, .int there), (2, .int right)] := hl
  have hR : p_mUnsealed qsealed there right = (if there = 0 then (nI 1, nI 1) else (if right = 0 then (nI 2, nI 2) else (if qsealed = 0 then (nI 0, nI 0) else (nI 3, nI 3)))) := rfl
  refine lv_aload_n hx hb d_Model_unsealed_0 rfl (lv_at hl 0 rfl) ?_
  refine lv_iload_n hx hb d_Model_unsealed_1 rfl (lv_at hl 1 rfl) ?_
  refine lv_if_ne (tgt := 9) hx hb d_Model_unsealed_2 (by decide) (fun h1 => ?_) (fun h1 => ?_)
  · have hR := hR.trans (if_neg h1)
    refine lv_iload_n hx hb d_Model_unsealed_9 rfl (lv_at hl 2 rfl) ?_
    refine lv_if_ne (tgt := 17) hx hb d_Model_unsealed_10 (by decide) (fun h2 => ?_) (fun h2 => ?_)
    · have hR := hR.trans (if_neg h2)
      refine lv_aload_n hx hb d_Model_unsealed_17 rfl (lv_at hl 0 rfl) ?_
      refine va_get (D := D) (ci := 5) (v := .int qsealed) (C := R_Model) (T := F_Model) (N := 31) hx hb (u_Model zh hZ) (fun _ h => h) hown hK hP 0 rfl rfl 1 (by decide) (wd zh hZ 603 q_603 rfl) (fun _ h9 => h9) rfl d_Model_unsealed_18 ?_
      refine lv_if_eq (tgt := 28) hx hb d_Model_unsealed_21 (by decide) (fun h3 => ?_) (fun h3 => ?_)
      · have hR := hR.trans (if_pos h3)
        refine lv_iconst (v := nI 0) hx hb d_Model_unsealed_28 (by decide) ?_
        refine va_put (D := D) (ci := 5) (v := .int (nI 0)) (ty := .int) (C := R_Model) (T := F_Model) (N := 31) hx hb (u_Model zh hZ) (fun _ h => h) t_Model t_Model_ok n_Model hown hK hP hD hS 0 rfl rfl 0 (by decide) (wd zh hZ 602 q_602 rfl) (fun _ h9 => h9) rfl (by decide +kernel) rfl rfl (Nat.le_of_ble_eq_true rfl) d_Model_unsealed_29 (fun H locs hP hD hS => ?_)
        have hP : va_P D classes [(a_model, .inr (5, [.int (nI 0), .int qsealed, .ref a_qlowCap, .ref a_qhighCap, .ref a_qtruCap, .ref a_qlow, .ref a_qhigh, .ref a_qreal, .ref a_qlimits, .int qairLow, .int qairTrue, .int qairHigh, .ref a_qpow, .int qbase, .int qslope, .int qsteep, .int qknee, .ref a_qwarm, .ref a_qbounds, .ref a_qpeaks, .ref a_qnext, .ref a_qprobe, .ref a_qerrors, .ref a_qdead, .ref a_qsteps, .ref a_qtried, .ref a_qwishes, .ref a_qranks, .ref a_qwaits, .ref a_qdraws, .int qleft]))] H := hP
        have hD : va_D A [(a_model, .inr (5, [.int (nI 0), .int qsealed, .ref a_qlowCap, .ref a_qhighCap, .ref a_qtruCap, .ref a_qlow, .ref a_qhigh, .ref a_qreal, .ref a_qlimits, .int qairLow, .int qairTrue, .int qairHigh, .ref a_qpow, .int qbase, .int qslope, .int qsteep, .int qknee, .ref a_qwarm, .ref a_qbounds, .ref a_qpeaks, .ref a_qnext, .ref a_qprobe, .ref a_qerrors, .ref a_qdead, .ref a_qsteps, .ref a_qtried, .ref a_qwishes, .ref a_qranks, .ref a_qwaits, .ref a_qdraws, .int qleft]))] := hD
        refine lv_aload_n hx hb d_Model_unsealed_32 rfl (lv_at hl 0 rfl) ?_
        refine va_get (D := D) (ci := 5) (v := .int (nI 0)) (C := R_Model) (T := F_Model) (N := 31) hx hb (u_Model zh hZ) (fun _ h => h) hown hK hP 0 rfl rfl 0 (by decide) (wd zh hZ 602 q_602 rfl) (fun _ h9 => h9) rfl d_Model_unsealed_33 ?_
        exact (W.iret (v := nI 0) hx hb hr (fun t9 ht hW => ⟨⟨nI 0, nI 0, rfl, hR.symm, by rw [ht]; exact hP, hD⟩, hS.F ht⟩) hS.2.2 d_Model_unsealed_36).mono hQ
      · have hR := hR.trans (if_neg h3)
        refine lv_iconst (v := nI 3) hx hb d_Model_unsealed_24 (by decide) ?_
        refine lv_goto (tgt := 29) hx hb d_Model_unsealed_25 (by decide) ?_
        refine va_put (D := D) (ci := 5) (v := .int (nI 3)) (ty := .int) (C := R_Model) (T := F_Model) (N := 31) hx hb (u_Model zh hZ) (fun _ h => h) t_Model t_Model_ok n_Model hown hK hP hD hS 0 rfl rfl 0 (by decide) (wd zh hZ 602 q_602 rfl) (fun _ h9 => h9) rfl (by decide +kernel) rfl rfl (Nat.le_of_ble_eq_true rfl) d_Model_unsealed_29 (fun H locs hP hD hS => ?_)
        have hP : va_P D classes [(a_model, .inr (5, [.int (nI 3), .int qsealed, .ref a_qlowCap, .ref a_qhighCap, .ref a_qtruCap, .ref a_qlow, .ref a_qhigh, .ref a_qreal, .ref a_qlimits, .int qairLow, .int qairTrue, .int qairHigh, .ref a_qpow, .int qbase, .int qslope, .int qsteep, .int qknee, .ref a_qwarm, .ref a_qbounds, .ref a_qpeaks, .ref a_qnext, .ref a_qprobe, .ref a_qerrors, .ref a_qdead, .ref a_qsteps, .ref a_qtried, .ref a_qwishes, .ref a_qranks, .ref a_qwaits, .ref a_qdraws, .int qleft]))] H := hP
        have hD : va_D A [(a_model, .inr (5, [.int (nI 3), .int qsealed, .ref a_qlowCap, .ref a_qhighCap, .ref a_qtruCap, .ref a_qlow, .ref a_qhigh, .ref a_qreal, .ref a_qlimits, .int qairLow, .int qairTrue, .int qairHigh, .ref a_qpow, .int qbase, .int qslope, .int qsteep, .int qknee, .ref a_qwarm, .ref a_qbounds, .ref a_qpeaks, .ref a_qnext, .ref a_qprobe, .ref a_qerrors, .ref a_qdead, .ref a_qsteps, .ref a_qtried, .ref a_qwishes, .ref a_qranks, .ref a_qwaits, .ref a_qdraws, .int qleft]))] := hD
        refine lv_aload_n hx hb d_Model_unsealed_32 rfl (lv_at hl 0 rfl) ?_
        refine va_get (D := D) (ci := 5) (v := .int (nI 3)) (C := R_Model) (T := F_Model) (N := 31) hx hb (u_Model zh hZ) (fun _ h => h) hown hK hP 0 rfl rfl 0 (by decide) (wd zh hZ 602 q_602 rfl) (fun _ h9 => h9) rfl d_Model_unsealed_33 ?_
        exact (W.iret (v := nI 3) hx hb hr (fun t9 ht hW => ⟨⟨nI 3, nI 3, rfl, hR.symm, by rw [ht]; exact hP, hD⟩, hS.F ht⟩) hS.2.2 d_Model_unsealed_36).mono hQ
    · have hR := hR.trans (if_pos h2)
      refine lv_iconst (v := nI 2) hx hb d_Model_unsealed_13 (by decide) ?_
      refine lv_goto (tgt := 29) hx hb d_Model_unsealed_14 (by decide) ?_
      refine va_put (D := D) (ci := 5) (v := .int (nI 2)) (ty := .int) (C := R_Model) (T := F_Model) (N := 31) hx hb (u_Model zh hZ) (fun _ h => h) t_Model t_Model_ok n_Model hown hK hP hD hS 0 rfl rfl 0 (by decide) (wd zh hZ 602 q_602 rfl) (fun _ h9 => h9) rfl (by decide +kernel) rfl rfl (Nat.le_of_ble_eq_true rfl) d_Model_unsealed_29 (fun H locs hP hD hS => ?_)
      have hP : va_P D classes [(a_model, .inr (5, [.int (nI 2), .int qsealed, .ref a_qlowCap, .ref a_qhighCap, .ref a_qtruCap, .ref a_qlow, .ref a_qhigh, .ref a_qreal, .ref a_qlimits, .int qairLow, .int qairTrue, .int qairHigh, .ref a_qpow, .int qbase, .int qslope, .int qsteep, .int qknee, .ref a_qwarm, .ref a_qbounds, .ref a_qpeaks, .ref a_qnext, .ref a_qprobe, .ref a_qerrors, .ref a_qdead, .ref a_qsteps, .ref a_qtried, .ref a_qwishes, .ref a_qranks, .ref a_qwaits, .ref a_qdraws, .int qleft]))] H := hP
      have hD : va_D A [(a_model, .inr (5, [.int (nI 2), .int qsealed, .ref a_qlowCap, .ref a_qhighCap, .ref a_qtruCap, .ref a_qlow, .ref a_qhigh, .ref a_qreal, .ref a_qlimits, .int qairLow, .int qairTrue, .int qairHigh, .ref a_qpow, .int qbase, .int qslope, .int qsteep, .int qknee, .ref a_qwarm, .ref a_qbounds, .ref a_qpeaks, .ref a_qnext, .ref a_qprobe, .ref a_qerrors, .ref a_qdead, .ref a_qsteps, .ref a_qtried, .ref a_qwishes, .ref a_qranks, .ref a_qwaits, .ref a_qdraws, .int qleft]))] := hD
      refine lv_aload_n hx hb d_Model_unsealed_32 rfl (lv_at hl 0 rfl) ?_
      refine va_get (D := D) (ci := 5) (v := .int (nI 2)) (C := R_Model) (T := F_Model) (N := 31) hx hb (u_Model zh hZ) (fun _ h => h) hown hK hP 0 rfl rfl 0 (by decide) (wd zh hZ 602 q_602 rfl) (fun _ h9 => h9) rfl d_Model_unsealed_33 ?_
      exact (W.iret (v := nI 2) hx hb hr (fun t9 ht hW => ⟨⟨nI 2, nI 2, rfl, hR.symm, by rw [ht]; exact hP, hD⟩, hS.F ht⟩) hS.2.2 d_Model_unsealed_36).mono hQ
  · have hR := hR.trans (if_pos h1)
    refine lv_iconst (v := nI 1) hx hb d_Model_unsealed_5 (by decide) ?_
    refine lv_goto (tgt := 29) hx hb d_Model_unsealed_6 (by decide) ?_
    refine va_put (D := D) (ci := 5) (v := .int (nI 1)) (ty := .int) (C := R_Model) (T := F_Model) (N := 31) hx hb (u_Model zh hZ) (fun _ h => h) t_Model t_Model_ok n_Model hown hK hP hD hS 0 rfl rfl 0 (by decide) (wd zh hZ 602 q_602 rfl) (fun _ h9 => h9) rfl (by decide +kernel) rfl rfl (Nat.le_of_ble_eq_true rfl) d_Model_unsealed_29 (fun H locs hP hD hS => ?_)
    have hP : va_P D classes [(a_model, .inr (5, [.int (nI 1), .int qsealed, .ref a_qlowCap, .ref a_qhighCap, .ref a_qtruCap, .ref a_qlow, .ref a_qhigh, .ref a_qreal, .ref a_qlimits, .int qairLow, .int qairTrue, .int qairHigh, .ref a_qpow, .int qbase, .int qslope, .int qsteep, .int qknee, .ref a_qwarm, .ref a_qbounds, .ref a_qpeaks, .ref a_qnext, .ref a_qprobe, .ref a_qerrors, .ref a_qdead, .ref a_qsteps, .ref a_qtried, .ref a_qwishes, .ref a_qranks, .ref a_qwaits, .ref a_qdraws, .int qleft]))] H := hP
    have hD : va_D A [(a_model, .inr (5, [.int (nI 1), .int qsealed, .ref a_qlowCap, .ref a_qhighCap, .ref a_qtruCap, .ref a_qlow, .ref a_qhigh, .ref a_qreal, .ref a_qlimits, .int qairLow, .int qairTrue, .int qairHigh, .ref a_qpow, .int qbase, .int qslope, .int qsteep, .int qknee, .ref a_qwarm, .ref a_qbounds, .ref a_qpeaks, .ref a_qnext, .ref a_qprobe, .ref a_qerrors, .ref a_qdead, .ref a_qsteps, .ref a_qtried, .ref a_qwishes, .ref a_qranks, .ref a_qwaits, .ref a_qdraws, .int qleft]))] := hD
    refine lv_aload_n hx hb d_Model_unsealed_32 rfl (lv_at hl 0 rfl) ?_
    refine va_get (D := D) (ci := 5) (v := .int (nI 1)) (C := R_Model) (T := F_Model) (N := 31) hx hb (u_Model zh hZ) (fun _ h => h) hown hK hP 0 rfl rfl 0 (by decide) (wd zh hZ 602 q_602 rfl) (fun _ h9 => h9) rfl d_Model_unsealed_33 ?_
    exact (W.iret (v := nI 1) hx hb hr (fun t9 ht hW => ⟨⟨nI 1, nI 1, rfl, hR.symm, by rw [ht]; exact hP, hD⟩, hS.F ht⟩) hS.2.2 d_Model_unsealed_36).mono hQ
def p_mShut (qsealed : Int32) (there : Int32) (right : Int32) : Int32 × Int32 := if there = 0 then (nI 1, nI 1) else (if right = 0 then (nI 2, nI 2) else (if qsealed = 0 then (nI 3, nI 3) else (nI 0, nI 0)))
set_option maxHeartbeats 1000000 in
set_option maxRecDepth 100000 in
theorem c_mShut (l : Launch) {z : State} {za : Array Value} (zh : ∀ w ∈ lw_tbl, w.before za z = true) (D : va_G) (cI cZ cJ : ClassId) (a_model : Nat) (a_qlowCap : Nat) (a_qhighCap : Nat) (a_qtruCap : Nat) (a_qlow : Nat) (a_qhigh : Nat) (a_qreal : Nat) (a_qlimits : Nat) (a_qpow : Nat) (a_qwarm : Nat) (a_qbounds : Nat) (a_qpeaks : Nat) (a_qnext : Nat) (a_qprobe : Nat) (a_qerrors : Nat) (a_qdead : Nat) (a_qsteps : Nat) (a_qtried : Nat) (a_qwishes : Nat) (a_qranks : Nat) (a_qwaits : Nat) (a_qdraws : Nat) (sz : Nat) (qthrown : Int32) (qsealed : Int32) (qairLow : Int32) (qairTrue : Int32) (qairHigh : Int32) (qbase : Int32) (qslope : Int32) (qsteep : Int32) (qknee : Int32) (qleft : Int32) (there : Int32) (right : Int32) :
    Met l y_Model_shut [Cond.code y_Model_shut prog_7_method_26_code 3 (some .int)] { frames := 0, cells := 0, slots := 0, locals := 0 } (va_Pc [.ref a_model, .int there, .int right] (PreW z D classes cI cZ cJ sz [(a_model, .inr (5, [.int qthrown, .int qsealed, .ref a_qlowCap, .ref a_qhighCap, .ref a_qtruCap, .ref a_qlow, .ref a_qhigh, .ref a_qreal, .ref a_qlimits, .int qairLow, .int qairTrue, .int qairHigh, .ref a_qpow, .int qbase, .int qslope, .int qsteep, .int qknee, .ref a_qwarm, .ref a_qbounds, .ref a_qpeaks, .ref a_qnext, .ref a_qprobe, .ref a_qerrors, .ref a_qdead, .ref a_qsteps, .ref a_qtried, .ref a_qwishes, .ref a_qranks, .ref a_qwaits, .ref a_qdraws, .int qleft]))])) (va_Qi (fun (r : Int32) (u : Int32) => (r, u) = p_mShut qsealed there right) (fun u => PostW D classes (va_A [(a_model, .inr (5, [.int qthrown, .int qsealed, .ref a_qlowCap, .ref a_qhighCap, .ref a_qtruCap, .ref a_qlow, .ref a_qhigh, .ref a_qreal, .ref a_qlimits, .int qairLow, .int qairTrue, .int qairHigh, .ref a_qpow, .int qbase, .int qslope, .int qsteep, .int qknee, .ref a_qwarm, .ref a_qbounds, .ref a_qpeaks, .ref a_qnext, .ref a_qprobe, .ref a_qerrors, .ref a_qdead, .ref a_qsteps, .ref a_qtried, .ref a_qwishes, .ref a_qranks, .ref a_qwaits, .ref a_qdraws, .int qleft]))] sz) [(a_model, .inr (5, [.int u, .int qsealed, .ref a_qlowCap, .ref a_qhighCap, .ref a_qtruCap, .ref a_qlow, .ref a_qhigh, .ref a_qreal, .ref a_qlimits, .int qairLow, .int qairTrue, .int qairHigh, .ref a_qpow, .int qbase, .int qslope, .int qsteep, .int qknee, .ref a_qwarm, .ref a_qbounds, .ref a_qpeaks, .ref a_qnext, .ref a_qprobe, .ref a_qerrors, .ref a_qdead, .ref a_qsteps, .ref a_qtried, .ref a_qwishes, .ref a_qranks, .ref a_qwaits, .ref a_qdraws, .int qleft]))]) (va_A [(a_model, .inr (5, [.int qthrown, .int qsealed, .ref a_qlowCap, .ref a_qhighCap, .ref a_qtruCap, .ref a_qlow, .ref a_qhigh, .ref a_qreal, .ref a_qlimits, .int qairLow, .int qairTrue, .int qairHigh, .ref a_qpow, .int qbase, .int qslope, .int qsteep, .int qknee, .ref a_qwarm, .ref a_qbounds, .ref a_qpeaks, .ref a_qnext, .ref a_qprobe, .ref a_qerrors, .ref a_qdead, .ref a_qsteps, .ref a_qtried, .ref a_qwishes, .ref a_qranks, .ref a_qwaits, .ref a_qdraws, .int qleft]))] sz)) 0 0 (va_A [(a_model, .inr (5, [.int qthrown, .int qsealed, .ref a_qlowCap, .ref a_qhighCap, .ref a_qtruCap, .ref a_qlow, .ref a_qhigh, .ref a_qreal, .ref a_qlimits, .int qairLow, .int qairTrue, .int qairHigh, .ref a_qpow, .int qbase, .int qslope, .int qsteep, .int qknee, .ref a_qwarm, .ref a_qbounds, .ref a_qpeaks, .ref a_qnext, .ref a_qprobe, .ref a_qerrors, .ref a_qdead, .ref a_qsteps, .ref a_qtried, .ref a_qwishes, .ref a_qranks, .ref a_qwaits, .ref a_qdraws, .int qleft]))] sz) := by
  refine Met.ofQ (cc := prog_7_method_26_code) (maxL := 3) (ret := (some .int)) (by decide +kernel) rfl ?_
  intro p e s m args below meth c s₁ Q B hml hv hQ
  obtain ⟨rfl, rfl, hZ, hP, hK, hD0⟩ := hv
  have hx := B.exec
  have hb := B.bytes
  have hr := B.returns
  have hown : s.vm.findClass R_Model = some m.cls := findClass_of_methodNamed B.named
  have hlocks := B.notSynchronized
  clear B
  have hD := hD0.self (sz := s.heap.size)
  generalize hAe : va_A [(a_model, .inr (5, [.int qthrown, .int qsealed, .ref a_qlowCap, .ref a_qhighCap, .ref a_qtruCap, .ref a_qlow, .ref a_qhigh, .ref a_qreal, .ref a_qlimits, .int qairLow, .int qairTrue, .int qairHigh, .ref a_qpow, .int qbase, .int qslope, .int qsteep, .int qknee, .ref a_qwarm, .ref a_qbounds, .ref a_qpeaks, .ref a_qnext, .ref a_qprobe, .ref a_qerrors, .ref a_qdead, .ref a_qsteps, .ref a_qtried, .ref a_qwishes, .ref a_qranks, .ref a_qwaits, .ref a_qdraws, .int qleft]))] s.heap.size = A at hD hQ
  have hA : ∀ q : Nat, s.heap.size ≤ q → A q := fun q h => by rw [← hAe]; exact Or.inr h
  clear hAe hD0
  have hS : va_S A s.heap s.heap [] := va_S.rf
  have hl := lv_entry ([.ref a_model, .int there, .int right]) (n := 3) (Nat.le_of_ble_eq_true rfl)
  rw [lg_entry_eq]
  generalize (lg_sl ([.ref a_model, .int there, .int right]) ++ List.replicate (3 - (lg_sl ([.ref a_model, .int there, .int right])).length) Slot.unset).toArray = ls at hl ⊢
  have hl : lv_has ls 3 [(0, .ref a_model), (1, .int there), (2, .int right)] := hl
  have hR : p_mShut qsealed there right = (if there = 0 then (nI 1, nI 1) else (if right = 0 then (nI 2, nI 2) else (if qsealed = 0 then (nI 3, nI 3) else (nI 0, nI 0)))) := rfl
  refine lv_aload_n hx hb d_Model_shut_0 rfl (lv_at hl 0 rfl) ?_
  refine lv_iload_n hx hb d_Model_shut_1 rfl (lv_at hl 1 rfl) ?_
  refine lv_if_ne (tgt := 9) hx hb d_Model_shut_2 (by decide) (fun h1 => ?_) (fun h1 => ?_)
  · have hR := hR.trans (if_neg h1)
    refine lv_iload_n hx hb d_Model_shut_9 rfl (lv_at hl 2 rfl) ?_
    refine lv_if_ne (tgt := 17) hx hb d_Model_shut_10 (by decide) (fun h2 => ?_) (fun h2 => ?_)
    · have hR := hR.trans (if_neg h2)
      refine lv_aload_n hx hb d_Model_shut_17 rfl (lv_at hl 0 rfl) ?_
      refine va_get (D := D) (ci := 5) (v := .int qsealed) (C := R_Model) (T := F_Model) (N := 31) hx hb (u_Model zh hZ) (fun _ h => h) hown hK hP 0 rfl rfl 1 (by decide) (wd zh hZ 603 q_603 rfl) (fun _ h9 => h9) rfl d_Model_shut_18 ?_
      refine lv_if_ne (tgt := 28) hx hb d_Model_shut_21 (by decide) (fun h3 => ?_) (fun h3 => ?_)
      · have hR := hR.trans (if_neg h3)
        refine lv_iconst (v := nI 0) hx hb d_Model_shut_28 (by decide) ?_
        refine va_put (D := D) (ci := 5) (v := .int (nI 0)) (ty := .int) (C := R_Model) (T := F_Model) (N := 31) hx hb (u_Model zh hZ) (fun _ h => h) t_Model t_Model_ok n_Model hown hK hP hD hS 0 rfl rfl 0 (by decide) (wd zh hZ 602 q_602 rfl) (fun _ h9 => h9) rfl (by decide +kernel) rfl rfl (Nat.le_of_ble_eq_true rfl) d_Model_shut_29 (fun H locs hP hD hS => ?_)
        have hP : va_P D classes [(a_model, .inr (5, [.int (nI 0), .int qsealed, .ref a_qlowCap, .ref a_qhighCap, .ref a_qtruCap, .ref a_qlow, .ref a_qhigh, .ref a_qreal, .ref a_qlimits, .int qairLow, .int qairTrue, .int qairHigh, .ref a_qpow, .int qbase, .int qslope, .int qsteep, .int qknee, .ref a_qwarm, .ref a_qbounds, .ref a_qpeaks, .ref a_qnext, .ref a_qprobe, .ref a_qerrors, .ref a_qdead, .ref a_qsteps, .ref a_qtried, .ref a_qwishes, .ref a_qranks, .ref a_qwaits, .ref a_qdraws, .int qleft]))] H := hP
        have hD : va_D A [(a_model, .inr (5, [.int (nI 0), .int qsealed, .ref a_qlowCap, .ref a_qhighCap, .ref a_qtruCap, .ref a_qlow, .ref a_qhigh, .ref a_qreal, .ref a_qlimits, .int qairLow, .int qairTrue, .int qairHigh, .ref a_qpow, .int qbase, .int qslope, .int qsteep, .int qknee, .ref a_qwarm, .ref a_qbounds, .ref a_qpeaks, .ref a_qnext, .ref a_qprobe, .ref a_qerrors, .ref a_qdead, .ref a_qsteps, .ref a_qtried, .ref a_qwishes, .ref a_qranks, .ref a_qwaits, .ref a_qdraws, .int qleft]))] := hD
        refine lv_aload_n hx hb d_Model_shut_32 rfl (lv_at hl 0 rfl) ?_
        refine va_get (D := D) (ci := 5) (v := .int (nI 0)) (C := R_Model) (T := F_Model) (N := 31) hx hb (u_Model zh hZ) (fun _ h => h) hown hK hP 0 rfl rfl 0 (by decide) (wd zh hZ 602 q_602 rfl) (fun _ h9 => h9) rfl d_Model_shut_33 ?_
        exact (W.iret (v := nI 0) hx hb hr (fun t9 ht hW => ⟨⟨nI 0, nI 0, rfl, hR.symm, by rw [ht]; exact hP, hD⟩, hS.F ht⟩) hS.2.2 d_Model_shut_36).mono hQ
      · have hR := hR.trans (if_pos h3)
        refine lv_iconst (v := nI 3) hx hb d_Model_shut_24 (by decide) ?_
        refine lv_goto (tgt := 29) hx hb d_Model_shut_25 (by decide) ?_
        refine va_put (D := D) (ci := 5) (v := .int (nI 3)) (ty := .int) (C := R_Model) (T := F_Model) (N := 31) hx hb (u_Model zh hZ) (fun _ h => h) t_Model t_Model_ok n_Model hown hK hP hD hS 0 rfl rfl 0 (by decide) (wd zh hZ 602 q_602 rfl) (fun _ h9 => h9) rfl (by decide +kernel) rfl rfl (Nat.le_of_ble_eq_true rfl) d_Model_shut_29 (fun H locs hP hD hS => ?_)
        have hP : va_P D classes [(a_model, .inr (5, [.int (nI 3), .int qsealed, .ref a_qlowCap, .ref a_qhighCap, .ref a_qtruCap, .ref a_qlow, .ref a_qhigh, .ref a_qreal, .ref a_qlimits, .int qairLow, .int qairTrue, .int qairHigh, .ref a_qpow, .int qbase, .int qslope, .int qsteep, .int qknee, .ref a_qwarm, .ref a_qbounds, .ref a_qpeaks, .ref a_qnext, .ref a_qprobe, .ref a_qerrors, .ref a_qdead, .ref a_qsteps, .ref a_qtried, .ref a_qwishes, .ref a_qranks, .ref a_qwaits, .ref a_qdraws, .int qleft]))] H := hP
        have hD : va_D A [(a_model, .inr (5, [.int (nI 3), .int qsealed, .ref a_qlowCap, .ref a_qhighCap, .ref a_qtruCap, .ref a_qlow, .ref a_qhigh, .ref a_qreal, .ref a_qlimits, .int qairLow, .int qairTrue, .int qairHigh, .ref a_qpow, .int qbase, .int qslope, .int qsteep, .int qknee, .ref a_qwarm, .ref a_qbounds, .ref a_qpeaks, .ref a_qnext, .ref a_qprobe, .ref a_qerrors, .ref a_qdead, .ref a_qsteps, .ref a_qtried, .ref a_qwishes, .ref a_qranks, .ref a_qwaits, .ref a_qdraws, .int qleft]))] := hD
        refine lv_aload_n hx hb d_Model_shut_32 rfl (lv_at hl 0 rfl) ?_
        refine va_get (D := D) (ci := 5) (v := .int (nI 3)) (C := R_Model) (T := F_Model) (N := 31) hx hb (u_Model zh hZ) (fun _ h => h) hown hK hP 0 rfl rfl 0 (by decide) (wd zh hZ 602 q_602 rfl) (fun _ h9 => h9) rfl d_Model_shut_33 ?_
        exact (W.iret (v := nI 3) hx hb hr (fun t9 ht hW => ⟨⟨nI 3, nI 3, rfl, hR.symm, by rw [ht]; exact hP, hD⟩, hS.F ht⟩) hS.2.2 d_Model_shut_36).mono hQ
    · have hR := hR.trans (if_pos h2)
      refine lv_iconst (v := nI 2) hx hb d_Model_shut_13 (by decide) ?_
      refine lv_goto (tgt := 29) hx hb d_Model_shut_14 (by decide) ?_
      refine va_put (D := D) (ci := 5) (v := .int (nI 2)) (ty := .int) (C := R_Model) (T := F_Model) (N := 31) hx hb (u_Model zh hZ) (fun _ h => h) t_Model t_Model_ok n_Model hown hK hP hD hS 0 rfl rfl 0 (by decide) (wd zh hZ 602 q_602 rfl) (fun _ h9 => h9) rfl (by decide +kernel) rfl rfl (Nat.le_of_ble_eq_true rfl) d_Model_shut_29 (fun H locs hP hD hS => ?_)
      have hP : va_P D classes [(a_model, .inr (5, [.int (nI 2), .int qsealed, .ref a_qlowCap, .ref a_qhighCap, .ref a_qtruCap, .ref a_qlow, .ref a_qhigh, .ref a_qreal, .ref a_qlimits, .int qairLow, .int qairTrue, .int qairHigh, .ref a_qpow, .int qbase, .int qslope, .int qsteep, .int qknee, .ref a_qwarm, .ref a_qbounds, .ref a_qpeaks, .ref a_qnext, .ref a_qprobe, .ref a_qerrors, .ref a_qdead, .ref a_qsteps, .ref a_qtried, .ref a_qwishes, .ref a_qranks, .ref a_qwaits, .ref a_qdraws, .int qleft]))] H := hP
      have hD : va_D A [(a_model, .inr (5, [.int (nI 2), .int qsealed, .ref a_qlowCap, .ref a_qhighCap, .ref a_qtruCap, .ref a_qlow, .ref a_qhigh, .ref a_qreal, .ref a_qlimits, .int qairLow, .int qairTrue, .int qairHigh, .ref a_qpow, .int qbase, .int qslope, .int qsteep, .int qknee, .ref a_qwarm, .ref a_qbounds, .ref a_qpeaks, .ref a_qnext, .ref a_qprobe, .ref a_qerrors, .ref a_qdead, .ref a_qsteps, .ref a_qtried, .ref a_qwishes, .ref a_qranks, .ref a_qwaits, .ref a_qdraws, .int qleft]))] := hD
      refine lv_aload_n hx hb d_Model_shut_32 rfl (lv_at hl 0 rfl) ?_
      refine va_get (D := D) (ci := 5) (v := .int (nI 2)) (C := R_Model) (T := F_Model) (N := 31) hx hb (u_Model zh hZ) (fun _ h => h) hown hK hP 0 rfl rfl 0 (by decide) (wd zh hZ 602 q_602 rfl) (fun _ h9 => h9) rfl d_Model_shut_33 ?_
      exact (W.iret (v := nI 2) hx hb hr (fun t9 ht hW => ⟨⟨nI 2, nI 2, rfl, hR.symm, by rw [ht]; exact hP, hD⟩, hS.F ht⟩) hS.2.2 d_Model_shut_36).mono hQ
  · have hR := hR.trans (if_pos h1)
    refine lv_iconst (v := nI 1) hx hb d_Model_shut_5 (by decide) ?_
    refine lv_goto (tgt := 29) hx hb d_Model_shut_6 (by decide) ?_
    refine va_put (D := D) (ci := 5) (v := .int (nI 1)) (ty := .int) (C := R_Model) (T := F_Model) (N := 31) hx hb (u_Model zh hZ) (fun _ h => h) t_Model t_Model_ok n_Model hown hK hP hD hS 0 rfl rfl 0 (by decide) (wd zh hZ 602 q_602 rfl) (fun _ h9 => h9) rfl (by decide +kernel) rfl rfl (Nat.le_of_ble_eq_true rfl) d_Model_shut_29 (fun H locs hP hD hS => ?_)
    have hP : va_P D classes [(a_model, .inr (5, [.int (nI 1), .int qsealed, .ref a_qlowCap, .ref a_qhighCap, .ref a_qtruCap, .ref a_qlow, .ref a_qhigh, .ref a_qreal, .ref a_qlimits, .int qairLow, .int qairTrue, .int qairHigh, .ref a_qpow, .int qbase, .int qslope, .int qsteep, .int qknee, .ref a_qwarm, .ref a_qbounds, .ref a_qpeaks, .ref a_qnext, .ref a_qprobe, .ref a_qerrors, .ref a_qdead, .ref a_qsteps, .ref a_qtried, .ref a_qwishes, .ref a_qranks, .ref a_qwaits, .ref a_qdraws, .int qleft]))] H := hP
    have hD : va_D A [(a_model, .inr (5, [.int (nI 1), .int qsealed, .ref a_qlowCap, .ref a_qhighCap, .ref a_qtruCap, .ref a_qlow, .ref a_qhigh, .ref a_qreal, .ref a_qlimits, .int qairLow, .int qairTrue, .int qairHigh, .ref a_qpow, .int qbase, .int qslope, .int qsteep, .int qknee, .ref a_qwarm, .ref a_qbounds, .ref a_qpeaks, .ref a_qnext, .ref a_qprobe, .ref a_qerrors, .ref a_qdead, .ref a_qsteps, .ref a_qtried, .ref a_qwishes, .ref a_qranks, .ref a_qwaits, .ref a_qdraws, .int qleft]))] := hD
    refine lv_aload_n hx hb d_Model_shut_32 rfl (lv_at hl 0 rfl) ?_
    refine va_get (D := D) (ci := 5) (v := .int (nI 1)) (C := R_Model) (T := F_Model) (N := 31) hx hb (u_Model zh hZ) (fun _ h => h) hown hK hP 0 rfl rfl 0 (by decide) (wd zh hZ 602 q_602 rfl) (fun _ h9 => h9) rfl d_Model_shut_33 ?_
    exact (W.iret (v := nI 1) hx hb hr (fun t9 ht hW => ⟨⟨nI 1, nI 1, rfl, hR.symm, by rw [ht]; exact hP, hD⟩, hS.F ht⟩) hS.2.2 d_Model_shut_36).mono hQ
def p_mThrown (qthrown : Int32) : Int32 := qthrown
set_option maxHeartbeats 1000000 in
set_option maxRecDepth 100000 in
theorem c_mThrown (l : Launch) {z : State} {za : Array Value} (zh : ∀ w ∈ lw_tbl, w.before za z = true) (D : va_G) (cI cZ cJ : ClassId) (a_model : Nat) (a_qlowCap : Nat) (a_qhighCap : Nat) (a_qtruCap : Nat) (a_qlow : Nat) (a_qhigh : Nat) (a_qreal : Nat) (a_qlimits : Nat) (a_qpow : Nat) (a_qwarm : Nat) (a_qbounds : Nat) (a_qpeaks : Nat) (a_qnext : Nat) (a_qprobe : Nat) (a_qerrors : Nat) (a_qdead : Nat) (a_qsteps : Nat) (a_qtried : Nat) (a_qwishes : Nat) (a_qranks : Nat) (a_qwaits : Nat) (a_qdraws : Nat) (sz : Nat) (qthrown : Int32) (qsealed : Int32) (qairLow : Int32) (qairTrue : Int32) (qairHigh : Int32) (qbase : Int32) (qslope : Int32) (qsteep : Int32) (qknee : Int32) (qleft : Int32) :
    Met l y_Model_thrown [Cond.code y_Model_thrown prog_7_method_2_code 1 (some .int)] { frames := 0, cells := 0, slots := 0, locals := 0 } (va_Pc [.ref a_model] (PreW z D classes cI cZ cJ sz [(a_model, .inr (5, [.int qthrown, .int qsealed, .ref a_qlowCap, .ref a_qhighCap, .ref a_qtruCap, .ref a_qlow, .ref a_qhigh, .ref a_qreal, .ref a_qlimits, .int qairLow, .int qairTrue, .int qairHigh, .ref a_qpow, .int qbase, .int qslope, .int qsteep, .int qknee, .ref a_qwarm, .ref a_qbounds, .ref a_qpeaks, .ref a_qnext, .ref a_qprobe, .ref a_qerrors, .ref a_qdead, .ref a_qsteps, .ref a_qtried, .ref a_qwishes, .ref a_qranks, .ref a_qwaits, .ref a_qdraws, .int qleft]))])) (va_Qi (fun (r : Int32) (_ : Unit) => r = p_mThrown qthrown) (fun u => PostW D classes (va_A [(a_model, .inr (5, [.int qthrown, .int qsealed, .ref a_qlowCap, .ref a_qhighCap, .ref a_qtruCap, .ref a_qlow, .ref a_qhigh, .ref a_qreal, .ref a_qlimits, .int qairLow, .int qairTrue, .int qairHigh, .ref a_qpow, .int qbase, .int qslope, .int qsteep, .int qknee, .ref a_qwarm, .ref a_qbounds, .ref a_qpeaks, .ref a_qnext, .ref a_qprobe, .ref a_qerrors, .ref a_qdead, .ref a_qsteps, .ref a_qtried, .ref a_qwishes, .ref a_qranks, .ref a_qwaits, .ref a_qdraws, .int qleft]))] sz) [(a_model, .inr (5, [.int qthrown, .int qsealed, .ref a_qlowCap, .ref a_qhighCap, .ref a_qtruCap, .ref a_qlow, .ref a_qhigh, .ref a_qreal, .ref a_qlimits, .int qairLow, .int qairTrue, .int qairHigh, .ref a_qpow, .int qbase, .int qslope, .int qsteep, .int qknee, .ref a_qwarm, .ref a_qbounds, .ref a_qpeaks, .ref a_qnext, .ref a_qprobe, .ref a_qerrors, .ref a_qdead, .ref a_qsteps, .ref a_qtried, .ref a_qwishes, .ref a_qranks, .ref a_qwaits, .ref a_qdraws, .int qleft]))]) (va_A [(a_model, .inr (5, [.int qthrown, .int qsealed, .ref a_qlowCap, .ref a_qhighCap, .ref a_qtruCap, .ref a_qlow, .ref a_qhigh, .ref a_qreal, .ref a_qlimits, .int qairLow, .int qairTrue, .int qairHigh, .ref a_qpow, .int qbase, .int qslope, .int qsteep, .int qknee, .ref a_qwarm, .ref a_qbounds, .ref a_qpeaks, .ref a_qnext, .ref a_qprobe, .ref a_qerrors, .ref a_qdead, .ref a_qsteps, .ref a_qtried, .ref a_qwishes, .ref a_qranks, .ref a_qwaits, .ref a_qdraws, .int qleft]))] sz)) 0 0 (va_A [(a_model, .inr (5, [.int qthrown, .int qsealed, .ref a_qlowCap, .ref a_qhighCap, .ref a_qtruCap, .ref a_qlow, .ref a_qhigh, .ref a_qreal, .ref a_qlimits, .int qairLow, .int qairTrue, .int qairHigh, .ref a_qpow, .int qbase, .int qslope, .int qsteep, .int qknee, .ref a_qwarm, .ref a_qbounds, .ref a_qpeaks, .ref a_qnext, .ref a_qprobe, .ref a_qerrors, .ref a_qdead, .ref a_qsteps, .ref a_qtried, .ref a_qwishes, .ref a_qranks, .ref a_qwaits, .ref a_qdraws, .int qleft]))] sz) := by
  refine Met.ofQ (cc := prog_7_method_2_code) (maxL := 1) (ret := (some .int)) (by decide +kernel) rfl ?_
  intro p e s m args below meth c s₁ Q B hml hv hQ
  obtain ⟨rfl, rfl, hZ, hP, hK, hD0⟩ := hv
  have hx := B.exec
  have hb := B.bytes
  have hr := B.returns
  have hown : s.vm.findClass R_Model = some m.cls := findClass_of_methodNamed B.named
  have hlocks := B.notSynchronized
  clear B
  have hD := hD0.self (sz := s.heap.size)
  generalize hAe : va_A [(a_model, .inr (5, [.int qthrown, .int qsealed, .ref a_qlowCap, .ref a_qhighCap, .ref a_qtruCap, .ref a_qlow, .ref a_qhigh, .ref a_qreal, .ref a_qlimits, .int qairLow, .int qairTrue, .int qairHigh, .ref a_qpow, .int qbase, .int qslope, .int qsteep, .int qknee, .ref a_qwarm, .ref a_qbounds, .ref a_qpeaks, .ref a_qnext, .ref a_qprobe, .ref a_qerrors, .ref a_qdead, .ref a_qsteps, .ref a_qtried, .ref a_qwishes, .ref a_qranks, .ref a_qwaits, .ref a_qdraws, .int qleft]))] s.heap.size = A at hD hQ
  have hA : ∀ q : Nat, s.heap.size ≤ q → A q := fun q h => by rw [← hAe]; exact Or.inr h
  clear hAe hD0
  have hS : va_S A s.heap s.heap [] := va_S.rf
  have hl := lv_entry ([.ref a_model]) (n := 1) (Nat.le_of_ble_eq_true rfl)
  rw [lg_entry_eq]
  generalize (lg_sl ([.ref a_model]) ++ List.replicate (1 - (lg_sl ([.ref a_model])).length) Slot.unset).toArray = ls at hl ⊢
  have hl : lv_has ls 1 [(0, .ref a_model)] := hl
  have hR : p_mThrown qthrown = (qthrown) := rfl
  refine lv_aload_n hx hb d_Model_thrown_0 rfl (lv_at hl 0 rfl) ?_
  refine va_get (D := D) (ci := 5) (v := .int qthrown) (C := R_Model) (T := F_Model) (N := 31) hx hb (u_Model zh hZ) (fun _ h => h) hown hK hP 0 rfl rfl 0 (by decide) (wd zh hZ 602 q_602 rfl) (fun _ h9 => h9) rfl d_Model_thrown_1 ?_
  exact (W.iret (v := qthrown) hx hb hr (fun t9 ht hW => ⟨⟨qthrown, (), rfl, hR.symm, by rw [ht]; exact hP, hD⟩, hS.F ht⟩) hS.2.2 d_Model_thrown_4).mono hQ
def p_mDown (x : Int64) (y : Int64) : Int64 := if 0 ≤ (lg_cmp (x - x / y * y) 0) then (x / y) else ((x / y) - 1)
set_option maxHeartbeats 1000000 in
set_option maxRecDepth 100000 in
theorem c_mDown (l : Launch) {z : State} {za : Array Value} (zh : ∀ w ∈ lw_tbl, w.before za z = true) (D : va_G) (cI cZ cJ : ClassId) (sz : Nat) (x : Int64) (y : Int64) (hy : ¬ y = 0) :
    Met l y_Model_down [Cond.code y_Model_down prog_7_method_17_code 6 (some .long)] { frames := 0, cells := 0, slots := 0, locals := 0 } (va_Pc [.long x, .long y] (PreW z D classes cI cZ cJ sz [])) (va_Ql (fun (r : Int64) (_ : Unit) => r = p_mDown x y) (fun u => PostW D classes (va_A [] sz) []) (va_A [] sz)) 0 0 (va_A [] sz) := by
  refine Met.ofQ (cc := prog_7_method_17_code) (maxL := 6) (ret := (some .long)) (by decide +kernel) rfl ?_
  intro p e s m args below meth c s₁ Q B hml hv hQ
  obtain ⟨rfl, rfl, hZ, hP, hK, hD0⟩ := hv
  have hx := B.exec
  have hb := B.bytes
  have hr := B.returns
  have hown : s.vm.findClass R_Model = some m.cls := findClass_of_methodNamed B.named
  have hlocks := B.notSynchronized
  clear B
  have hD := hD0.self (sz := s.heap.size)
  generalize hAe : va_A [] s.heap.size = A at hD hQ
  have hA : ∀ q : Nat, s.heap.size ≤ q → A q := fun q h => by rw [← hAe]; exact Or.inr h
  clear hAe hD0
  have hS : va_S A s.heap s.heap [] := va_S.rf
  have hl := lv_entry ([.long x, .long y]) (n := 6) (Nat.le_of_ble_eq_true rfl)
  rw [lg_entry_eq]
  generalize (lg_sl ([.long x, .long y]) ++ List.replicate (6 - (lg_sl ([.long x, .long y])).length) Slot.unset).toArray = ls at hl ⊢
  have hl : lv_has ls 6 [(0, .long x), (2, .long y)] := hl
  have hR : p_mDown x y = (if 0 ≤ (lg_cmp (x - x / y * y) 0) then (x / y) else ((x / y) - 1)) := rfl
  refine lv_lload_n hx hb d_Model_down_0 rfl (lv_at hl 0 rfl) ?_
  refine lv_lload_n hx hb d_Model_down_1 rfl (lv_at hl 1 rfl) ?_
  refine lv_ldiv hx hb d_Model_down_2 hy ?_
  refine lv_lstore (lv' := [(4, .long (x / y)), (0, .long x), (2, .long y)]) hx hb d_Model_down_3 hl (by decide) rfl (fun ls hl => ?_)
  refine lv_lload_n hx hb d_Model_down_5 rfl (lv_at hl 1 rfl) ?_
  refine lv_lload_n hx hb d_Model_down_6 rfl (lv_at hl 2 rfl) ?_
  refine lv_lrem hx hb d_Model_down_7 hy ?_
  refine lv_lconst (v := 0) hx hb d_Model_down_8 (by decide) ?_
  refine W.lcmp hx hb d_Model_down_9 ?_
  refine lv_if_ge (tgt := 20) hx hb d_Model_down_10 (by decide) (fun h1 => ?_) (fun h1 => ?_)
  · have hR := hR.trans (if_pos h1)
    refine lv_lload hx hb d_Model_down_20 (lv_at hl 0 rfl) ?_
    exact (W.lret (v := (x / y)) hx hb hr (fun t9 ht hW => ⟨⟨(x / y), (), rfl, hR.symm, by rw [ht]; exact hP, hD⟩, hS.F ht⟩) hS.2.2 d_Model_down_22).mono hQ
  · have hR := hR.trans (if_neg h1)
    refine lv_lload hx hb d_Model_down_13 (lv_at hl 0 rfl) ?_
    refine lv_lconst (v := 1) hx hb d_Model_down_15 (by decide) ?_
    refine lv_lsub hx hb d_Model_down_16 ?_
    refine lv_goto (tgt := 22) hx hb d_Model_down_17 (by decide) ?_
    exact (W.lret (v := ((x / y) - 1)) hx hb hr (fun t9 ht hW => ⟨⟨((x / y) - 1), (), rfl, hR.symm, by rw [ht]; exact hP, hD⟩, hS.F ht⟩) hS.2.2 d_Model_down_22).mono hQ
def p_mUp (x : Int64) (y : Int64) : Int64 := if (lg_cmp (x - x / y * y) 0) ≤ 0 then (x / y) else ((x / y) + 1)
set_option maxHeartbeats 1000000 in
set_option maxRecDepth 100000 in
theorem c_mUp (l : Launch) {z : State} {za : Array Value} (zh : ∀ w ∈ lw_tbl, w.before za z = true) (D : va_G) (cI cZ cJ : ClassId) (sz : Nat) (x : Int64) (y : Int64) (hy : ¬ y = 0) :
    Met l y_Model_up [Cond.code y_Model_up prog_7_method_18_code 6 (some .long)] { frames := 0, cells := 0, slots := 0, locals := 0 } (va_Pc [.long x, .long y] (PreW z D classes cI cZ cJ sz [])) (va_Ql (fun (r : Int64) (_ : Unit) => r = p_mUp x y) (fun u => PostW D classes (va_A [] sz) []) (va_A [] sz)) 0 0 (va_A [] sz) := by
  refine Met.ofQ (cc := prog_7_method_18_code) (maxL := 6) (ret := (some .long)) (by decide +kernel) rfl ?_
  intro p e s m args below meth c s₁ Q B hml hv hQ
  obtain ⟨rfl, rfl, hZ, hP, hK, hD0⟩ := hv
  have hx := B.exec
  have hb := B.bytes
  have hr := B.returns
  have hown : s.vm.findClass R_Model = some m.cls := findClass_of_methodNamed B.named
  have hlocks := B.notSynchronized
  clear B
  have hD := hD0.self (sz := s.heap.size)
  generalize hAe : va_A [] s.heap.size = A at hD hQ
  have hA : ∀ q : Nat, s.heap.size ≤ q → A q := fun q h => by rw [← hAe]; exact Or.inr h
  clear hAe hD0
  have hS : va_S A s.heap s.heap [] := va_S.rf
  have hl := lv_entry ([.long x, .long y]) (n := 6) (Nat.le_of_ble_eq_true rfl)
  rw [lg_entry_eq]
  generalize (lg_sl ([.long x, .long y]) ++ List.replicate (6 - (lg_sl ([.long x, .long y])).length) Slot.unset).toArray = ls at hl ⊢
  have hl : lv_has ls 6 [(0, .long x), (2, .long y)] := hl
  have hR : p_mUp x y = (if (lg_cmp (x - x / y * y) 0) ≤ 0 then (x / y) else ((x / y) + 1)) := rfl
  refine lv_lload_n hx hb d_Model_up_0 rfl (lv_at hl 0 rfl) ?_
  refine lv_lload_n hx hb d_Model_up_1 rfl (lv_at hl 1 rfl) ?_
  refine lv_ldiv hx hb d_Model_up_2 hy ?_
  refine lv_lstore (lv' := [(4, .long (x / y)), (0, .long x), (2, .long y)]) hx hb d_Model_up_3 hl (by decide) rfl (fun ls hl => ?_)
  refine lv_lload_n hx hb d_Model_up_5 rfl (lv_at hl 1 rfl) ?_
  refine lv_lload_n hx hb d_Model_up_6 rfl (lv_at hl 2 rfl) ?_
  refine lv_lrem hx hb d_Model_up_7 hy ?_
  refine lv_lconst (v := 0) hx hb d_Model_up_8 (by decide) ?_
  refine W.lcmp hx hb d_Model_up_9 ?_
  refine lv_if_le (tgt := 20) hx hb d_Model_up_10 (by decide) (fun h1 => ?_) (fun h1 => ?_)
  · have hR := hR.trans (if_pos h1)
    refine lv_lload hx hb d_Model_up_20 (lv_at hl 0 rfl) ?_
    exact (W.lret (v := (x / y)) hx hb hr (fun t9 ht hW => ⟨⟨(x / y), (), rfl, hR.symm, by rw [ht]; exact hP, hD⟩, hS.F ht⟩) hS.2.2 d_Model_up_22).mono hQ
  · have hR := hR.trans (if_neg h1)
    refine lv_lload hx hb d_Model_up_13 (lv_at hl 0 rfl) ?_
    refine lv_lconst (v := 1) hx hb d_Model_up_15 (by decide) ?_
    refine lv_ladd hx hb d_Model_up_16 ?_
    refine lv_goto (tgt := 22) hx hb d_Model_up_17 (by decide) ?_
    exact (W.lret (v := ((x / y) + 1)) hx hb hr (fun t9 ht hW => ⟨⟨((x / y) + 1), (), rfl, hR.symm, by rw [ht]; exact hP, hD⟩, hS.F ht⟩) hS.2.2 d_Model_up_22).mono hQ
def p_mLeakAt (qbase : Int32) (qslope : Int32) (qsteep : Int32) (qknee : Int32) (t : Int64) : Int64 := if (lg_cmp t qknee.toInt64) ≤ 0 then ((qbase.toInt64 + (qslope.toInt64 * t)) + 0) else ((qbase.toInt64 + (qslope.toInt64 * t)) + (qsteep.toInt64 * (t - qknee.toInt64)))
set_option maxHeartbeats 1000000 in
set_option maxRecDepth 100000 in
theorem c_mLeakAt (l : Launch) {z : State} {za : Array Value} (zh : ∀ w ∈ lw_tbl, w.before za z = true) (D : va_G) (cI cZ cJ : ClassId) (a_model : Nat) (a_qlowCap : Nat) (a_qhighCap : Nat) (a_qtruCap : Nat) (a_qlow : Nat) (a_qhigh : Nat) (a_qreal : Nat) (a_qlimits : Nat) (a_qpow : Nat) (a_qwarm : Nat) (a_qbounds : Nat) (a_qpeaks : Nat) (a_qnext : Nat) (a_qprobe : Nat) (a_qerrors : Nat) (a_qdead : Nat) (a_qsteps : Nat) (a_qtried : Nat) (a_qwishes : Nat) (a_qranks : Nat) (a_qwaits : Nat) (a_qdraws : Nat) (sz : Nat) (qthrown : Int32) (qsealed : Int32) (qairLow : Int32) (qairTrue : Int32) (qairHigh : Int32) (qbase : Int32) (qslope : Int32) (qsteep : Int32) (qknee : Int32) (qleft : Int32) (t : Int64) :
    Met l y_Model_leakAt [Cond.code y_Model_leakAt prog_7_method_16_code 3 (some .long)] { frames := 0, cells := 0, slots := 0, locals := 0 } (va_Pc [.ref a_model, .long t] (PreW z D classes cI cZ cJ sz [(a_model, .inr (5, [.int qthrown, .int qsealed, .ref a_qlowCap, .ref a_qhighCap, .ref a_qtruCap, .ref a_qlow, .ref a_qhigh, .ref a_qreal, .ref a_qlimits, .int qairLow, .int qairTrue, .int qairHigh, .ref a_qpow, .int qbase, .int qslope, .int qsteep, .int qknee, .ref a_qwarm, .ref a_qbounds, .ref a_qpeaks, .ref a_qnext, .ref a_qprobe, .ref a_qerrors, .ref a_qdead, .ref a_qsteps, .ref a_qtried, .ref a_qwishes, .ref a_qranks, .ref a_qwaits, .ref a_qdraws, .int qleft]))])) (va_Ql (fun (r : Int64) (_ : Unit) => r = p_mLeakAt qbase qslope qsteep qknee t) (fun u => PostW D classes (va_A [(a_model, .inr (5, [.int qthrown, .int qsealed, .ref a_qlowCap, .ref a_qhighCap, .ref a_qtruCap, .ref a_qlow, .ref a_qhigh, .ref a_qreal, .ref a_qlimits, .int qairLow, .int qairTrue, .int qairHigh, .ref a_qpow, .int qbase, .int qslope, .int qsteep, .int qknee, .ref a_qwarm, .ref a_qbounds, .ref a_qpeaks, .ref a_qnext, .ref a_qprobe, .ref a_qerrors, .ref a_qdead, .ref a_qsteps, .ref a_qtried, .ref a_qwishes, .ref a_qranks, .ref a_qwaits, .ref a_qdraws, .int qleft]))] sz) [(a_model, .inr (5, [.int qthrown, .int qsealed, .ref a_qlowCap, .ref a_qhighCap, .ref a_qtruCap, .ref a_qlow, .ref a_qhigh, .ref a_qreal, .ref a_qlimits, .int qairLow, .int qairTrue, .int qairHigh, .ref a_qpow, .int qbase, .int qslope, .int qsteep, .int qknee, .ref a_qwarm, .ref a_qbounds, .ref a_qpeaks, .ref a_qnext, .ref a_qprobe, .ref a_qerrors, .ref a_qdead, .ref a_qsteps, .ref a_qtried, .ref a_qwishes, .ref a_qranks, .ref a_qwaits, .ref a_qdraws, .int qleft]))]) (va_A [(a_model, .inr (5, [.int qthrown, .int qsealed, .ref a_qlowCap, .ref a_qhighCap, .ref a_qtruCap, .ref a_qlow, .ref a_qhigh, .ref a_qreal, .ref a_qlimits, .int qairLow, .int qairTrue, .int qairHigh, .ref a_qpow, .int qbase, .int qslope, .int qsteep, .int qknee, .ref a_qwarm, .ref a_qbounds, .ref a_qpeaks, .ref a_qnext, .ref a_qprobe, .ref a_qerrors, .ref a_qdead, .ref a_qsteps, .ref a_qtried, .ref a_qwishes, .ref a_qranks, .ref a_qwaits, .ref a_qdraws, .int qleft]))] sz)) 0 0 (va_A [(a_model, .inr (5, [.int qthrown, .int qsealed, .ref a_qlowCap, .ref a_qhighCap, .ref a_qtruCap, .ref a_qlow, .ref a_qhigh, .ref a_qreal, .ref a_qlimits, .int qairLow, .int qairTrue, .int qairHigh, .ref a_qpow, .int qbase, .int qslope, .int qsteep, .int qknee, .ref a_qwarm, .ref a_qbounds, .ref a_qpeaks, .ref a_qnext, .ref a_qprobe, .ref a_qerrors, .ref a_qdead, .ref a_qsteps, .ref a_qtried, .ref a_qwishes, .ref a_qranks, .ref a_qwaits, .ref a_qdraws, .int qleft]))] sz) := by
  refine Met.ofQ (cc := prog_7_method_16_code) (maxL := 3) (ret := (some .long)) (by decide +kernel) rfl ?_
  intro p e s m args below meth c s₁ Q B hml hv hQ
  obtain ⟨rfl, rfl, hZ, hP, hK, hD0⟩ := hv
  have hx := B.exec
  have hb := B.bytes
  have hr := B.returns
  have hown : s.vm.findClass R_Model = some m.cls := findClass_of_methodNamed B.named
  have hlocks := B.notSynchronized
  clear B
  have hD := hD0.self (sz := s.heap.size)
  generalize hAe : va_A [(a_model, .inr (5, [.int qthrown, .int qsealed, .ref a_qlowCap, .ref a_qhighCap, .ref a_qtruCap, .ref a_qlow, .ref a_qhigh, .ref a_qreal, .ref a_qlimits, .int qairLow, .int qairTrue, .int qairHigh, .ref a_qpow, .int qbase, .int qslope, .int qsteep, .int qknee, .ref a_qwarm, .ref a_qbounds, .ref a_qpeaks, .ref a_qnext, .ref a_qprobe, .ref a_qerrors, .ref a_qdead, .ref a_qsteps, .ref a_qtried, .ref a_qwishes, .ref a_qranks, .ref a_qwaits, .ref a_qdraws, .int qleft]))] s.heap.size = A at hD hQ
  have hA : ∀ q : Nat, s.heap.size ≤ q → A q := fun q h => by rw [← hAe]; exact Or.inr h
  clear hAe hD0
  have hS : va_S A s.heap s.heap [] := va_S.rf
  have hl := lv_entry ([.ref a_model, .long t]) (n := 3) (Nat.le_of_ble_eq_true rfl)
  rw [lg_entry_eq]
  generalize (lg_sl ([.ref a_model, .long t]) ++ List.replicate (3 - (lg_sl ([.ref a_model, .long t])).length) Slot.unset).toArray = ls at hl ⊢
  have hl : lv_has ls 3 [(0, .ref a_model), (1, .long t)] := hl
  have hR : p_mLeakAt qbase qslope qsteep qknee t = (if (lg_cmp t qknee.toInt64) ≤ 0 then ((qbase.toInt64 + (qslope.toInt64 * t)) + 0) else ((qbase.toInt64 + (qslope.toInt64 * t)) + (qsteep.toInt64 * (t - qknee.toInt64)))) := rfl
  refine lv_aload_n hx hb d_Model_leakAt_0 rfl (lv_at hl 0 rfl) ?_
  refine va_get (D := D) (ci := 5) (v := .int qbase) (C := R_Model) (T := F_Model) (N := 31) hx hb (u_Model zh hZ) (fun _ h => h) hown hK hP 0 rfl rfl 13 (by decide) (wd zh hZ 615 q_615 rfl) (fun _ h9 => h9) rfl d_Model_leakAt_1 ?_
  refine lv_i2l (v := qbase.toInt64) hx hb d_Model_leakAt_4 rfl ?_
  refine lv_aload_n hx hb d_Model_leakAt_5 rfl (lv_at hl 0 rfl) ?_
  refine va_get (D := D) (ci := 5) (v := .int qslope) (C := R_Model) (T := F_Model) (N := 31) hx hb (u_Model zh hZ) (fun _ h => h) hown hK hP 0 rfl rfl 14 (by decide) (wd zh hZ 616 q_616 rfl) (fun _ h9 => h9) rfl d_Model_leakAt_6 ?_
  refine lv_i2l (v := qslope.toInt64) hx hb d_Model_leakAt_9 rfl ?_
  refine lv_lload_n hx hb d_Model_leakAt_10 rfl (lv_at hl 1 rfl) ?_
  refine lv_lmul hx hb d_Model_leakAt_11 ?_
  refine lv_ladd hx hb d_Model_leakAt_12 ?_
  refine lv_lload_n hx hb d_Model_leakAt_13 rfl (lv_at hl 1 rfl) ?_
  refine lv_aload_n hx hb d_Model_leakAt_14 rfl (lv_at hl 0 rfl) ?_
  refine va_get (D := D) (ci := 5) (v := .int qknee) (C := R_Model) (T := F_Model) (N := 31) hx hb (u_Model zh hZ) (fun _ h => h) hown hK hP 0 rfl rfl 16 (by decide) (wd zh hZ 618 q_618 rfl) (fun _ h9 => h9) rfl d_Model_leakAt_15 ?_
  refine lv_i2l (v := qknee.toInt64) hx hb d_Model_leakAt_18 rfl ?_
  refine W.lcmp hx hb d_Model_leakAt_19 ?_
  refine lv_if_le (tgt := 39) hx hb d_Model_leakAt_20 (by decide) (fun h1 => ?_) (fun h1 => ?_)
  · have hR := hR.trans (if_pos h1)
    refine lv_lconst (v := 0) hx hb d_Model_leakAt_39 (by decide) ?_
    refine lv_ladd hx hb d_Model_leakAt_40 ?_
    exact (W.lret (v := ((qbase.toInt64 + (qslope.toInt64 * t)) + 0)) hx hb hr (fun t9 ht hW => ⟨⟨((qbase.toInt64 + (qslope.toInt64 * t)) + 0), (), rfl, hR.symm, by rw [ht]; exact hP, hD⟩, hS.F ht⟩) hS.2.2 d_Model_leakAt_41).mono hQ
  · have hR := hR.trans (if_neg h1)
    refine lv_aload_n hx hb d_Model_leakAt_23 rfl (lv_at hl 0 rfl) ?_
    refine va_get (D := D) (ci := 5) (v := .int qsteep) (C := R_Model) (T := F_Model) (N := 31) hx hb (u_Model zh hZ) (fun _ h => h) hown hK hP 0 rfl rfl 15 (by decide) (wd zh hZ 617 q_617 rfl) (fun _ h9 => h9) rfl d_Model_leakAt_24 ?_
    refine lv_i2l (v := qsteep.toInt64) hx hb d_Model_leakAt_27 rfl ?_
    refine lv_lload_n hx hb d_Model_leakAt_28 rfl (lv_at hl 1 rfl) ?_
    refine lv_aload_n hx hb d_Model_leakAt_29 rfl (lv_at hl 0 rfl) ?_
    refine va_get (D := D) (ci := 5) (v := .int qknee) (C := R_Model) (T := F_Model) (N := 31) hx hb (u_Model zh hZ) (fun _ h => h) hown hK hP 0 rfl rfl 16 (by decide) (wd zh hZ 618 q_618 rfl) (fun _ h9 => h9) rfl d_Model_leakAt_30 ?_
    refine lv_i2l (v := qknee.toInt64) hx hb d_Model_leakAt_33 rfl ?_
    refine lv_lsub hx hb d_Model_leakAt_34 ?_
    refine lv_lmul hx hb d_Model_leakAt_35 ?_
    refine lv_goto (tgt := 40) hx hb d_Model_leakAt_36 (by decide) ?_
    refine lv_ladd hx hb d_Model_leakAt_40 ?_
    exact (W.lret (v := ((qbase.toInt64 + (qslope.toInt64 * t)) + (qsteep.toInt64 * (t - qknee.toInt64)))) hx hb hr (fun t9 ht hW => ⟨⟨((qbase.toInt64 + (qslope.toInt64 * t)) + (qsteep.toInt64 * (t - qknee.toInt64))), (), rfl, hR.symm, by rw [ht]; exact hP, hD⟩, hS.F ht⟩) hS.2.2 d_Model_leakAt_41).mono hQ
def p_mDrawn (qpow : Nat → Int32) (qsteps : Nat → Int32) (qdraws : Nat → Int32) (k : Nat) : Int32 := if (qpow (qsteps k).toNatClampNeg) ≤ (qdraws k) then (qpow (qsteps k).toNatClampNeg) else (qdraws k)
set_option maxHeartbeats 1000000 in
set_option maxRecDepth 100000 in
theorem c_mDrawn (l : Launch) {z : State} {za : Array Value} (zh : ∀ w ∈ lw_tbl, w.before za z = true) (D : va_G) (cI cZ cJ : ClassId) (a_model : Nat) (a_qlowCap : Nat) (a_qhighCap : Nat) (a_qtruCap : Nat) (a_qlow : Nat) (a_qhigh : Nat) (a_qreal : Nat) (a_qlimits : Nat) (a_qpow : Nat) (a_qwarm : Nat) (a_qbounds : Nat) (a_qpeaks : Nat) (a_qnext : Nat) (a_qprobe : Nat) (a_qerrors : Nat) (a_qdead : Nat) (a_qsteps : Nat) (a_qtried : Nat) (a_qwishes : Nat) (a_qranks : Nat) (a_qwaits : Nat) (a_qdraws : Nat) (sz : Nat) (qthrown : Int32) (qsealed : Int32) (qairLow : Int32) (qairTrue : Int32) (qairHigh : Int32) (qbase : Int32) (qslope : Int32) (qsteep : Int32) (qknee : Int32) (qleft : Int32) (qpow : Nat → Int32) (qsteps : Nat → Int32) (qdraws : Nat → Int32) (k : Nat) (hk : k < 4) (hst : ∀ j, j < 4 → vp_in (qsteps j) 4) :
    Met l y_Model_drawn [Cond.code y_Model_drawn prog_7_method_31_code 3 (some .int)] { frames := 0, cells := 0, slots := 0, locals := 0 } (va_Pc [.ref a_model, .int (nI k)] (PreW z D classes cI cZ cJ sz [(a_model, .inr (5, [.int qthrown, .int qsealed, .ref a_qlowCap, .ref a_qhighCap, .ref a_qtruCap, .ref a_qlow, .ref a_qhigh, .ref a_qreal, .ref a_qlimits, .int qairLow, .int qairTrue, .int qairHigh, .ref a_qpow, .int qbase, .int qslope, .int qsteep, .int qknee, .ref a_qwarm, .ref a_qbounds, .ref a_qpeaks, .ref a_qnext, .ref a_qprobe, .ref a_qerrors, .ref a_qdead, .ref a_qsteps, .ref a_qtried, .ref a_qwishes, .ref a_qranks, .ref a_qwaits, .ref a_qdraws, .int qleft])), (a_qpow, .inl (cI, 4, .inl qpow)), (a_qsteps, .inl (cI, 4, .inl qsteps)), (a_qdraws, .inl (cI, 4, .inl qdraws))])) (va_Qi (fun (r : Int32) (_ : Unit) => r = p_mDrawn qpow qsteps qdraws k) (fun u => PostW D classes (va_A [(a_model, .inr (5, [.int qthrown, .int qsealed, .ref a_qlowCap, .ref a_qhighCap, .ref a_qtruCap, .ref a_qlow, .ref a_qhigh, .ref a_qreal, .ref a_qlimits, .int qairLow, .int qairTrue, .int qairHigh, .ref a_qpow, .int qbase, .int qslope, .int qsteep, .int qknee, .ref a_qwarm, .ref a_qbounds, .ref a_qpeaks, .ref a_qnext, .ref a_qprobe, .ref a_qerrors, .ref a_qdead, .ref a_qsteps, .ref a_qtried, .ref a_qwishes, .ref a_qranks, .ref a_qwaits, .ref a_qdraws, .int qleft])), (a_qpow, .inl (cI, 4, .inl qpow)), (a_qsteps, .inl (cI, 4, .inl qsteps)), (a_qdraws, .inl (cI, 4, .inl qdraws))] sz) [(a_model, .inr (5, [.int qthrown, .int qsealed, .ref a_qlowCap, .ref a_qhighCap, .ref a_qtruCap, .ref a_qlow, .ref a_qhigh, .ref a_qreal, .ref a_qlimits, .int qairLow, .int qairTrue, .int qairHigh, .ref a_qpow, .int qbase, .int qslope, .int qsteep, .int qknee, .ref a_qwarm, .ref a_qbounds, .ref a_qpeaks, .ref a_qnext, .ref a_qprobe, .ref a_qerrors, .ref a_qdead, .ref a_qsteps, .ref a_qtried, .ref a_qwishes, .ref a_qranks, .ref a_qwaits, .ref a_qdraws, .int qleft])), (a_qpow, .inl (cI, 4, .inl qpow)), (a_qsteps, .inl (cI, 4, .inl qsteps)), (a_qdraws, .inl (cI, 4, .inl qdraws))]) (va_A [(a_model, .inr (5, [.int qthrown, .int qsealed, .ref a_qlowCap, .ref a_qhighCap, .ref a_qtruCap, .ref a_qlow, .ref a_qhigh, .ref a_qreal, .ref a_qlimits, .int qairLow, .int qairTrue, .int qairHigh, .ref a_qpow, .int qbase, .int qslope, .int qsteep, .int qknee, .ref a_qwarm, .ref a_qbounds, .ref a_qpeaks, .ref a_qnext, .ref a_qprobe, .ref a_qerrors, .ref a_qdead, .ref a_qsteps, .ref a_qtried, .ref a_qwishes, .ref a_qranks, .ref a_qwaits, .ref a_qdraws, .int qleft])), (a_qpow, .inl (cI, 4, .inl qpow)), (a_qsteps, .inl (cI, 4, .inl qsteps)), (a_qdraws, .inl (cI, 4, .inl qdraws))] sz)) 0 0 (va_A [(a_model, .inr (5, [.int qthrown, .int qsealed, .ref a_qlowCap, .ref a_qhighCap, .ref a_qtruCap, .ref a_qlow, .ref a_qhigh, .ref a_qreal, .ref a_qlimits, .int qairLow, .int qairTrue, .int qairHigh, .ref a_qpow, .int qbase, .int qslope, .int qsteep, .int qknee, .ref a_qwarm, .ref a_qbounds, .ref a_qpeaks, .ref a_qnext, .ref a_qprobe, .ref a_qerrors, .ref a_qdead, .ref a_qsteps, .ref a_qtried, .ref a_qwishes, .ref a_qranks, .ref a_qwaits, .ref a_qdraws, .int qleft])), (a_qpow, .inl (cI, 4, .inl qpow)), (a_qsteps, .inl (cI, 4, .inl qsteps)), (a_qdraws, .inl (cI, 4, .inl qdraws))] sz) := by
  refine Met.ofQ (cc := prog_7_method_31_code) (maxL := 3) (ret := (some .int)) (by decide +kernel) rfl ?_
  intro p e s m args below meth c s₁ Q B hml hv hQ
  obtain ⟨rfl, rfl, hZ, hP, hK, hD0⟩ := hv
  have hx := B.exec
  have hb := B.bytes
  have hr := B.returns
  have hown : s.vm.findClass R_Model = some m.cls := findClass_of_methodNamed B.named
  have hlocks := B.notSynchronized
  clear B
  have hD := hD0.self (sz := s.heap.size)
  generalize hAe : va_A [(a_model, .inr (5, [.int qthrown, .int qsealed, .ref a_qlowCap, .ref a_qhighCap, .ref a_qtruCap, .ref a_qlow, .ref a_qhigh, .ref a_qreal, .ref a_qlimits, .int qairLow, .int qairTrue, .int qairHigh, .ref a_qpow, .int qbase, .int qslope, .int qsteep, .int qknee, .ref a_qwarm, .ref a_qbounds, .ref a_qpeaks, .ref a_qnext, .ref a_qprobe, .ref a_qerrors, .ref a_qdead, .ref a_qsteps, .ref a_qtried, .ref a_qwishes, .ref a_qranks, .ref a_qwaits, .ref a_qdraws, .int qleft])), (a_qpow, .inl (cI, 4, .inl qpow)), (a_qsteps, .inl (cI, 4, .inl qsteps)), (a_qdraws, .inl (cI, 4, .inl qdraws))] s.heap.size = A at hD hQ
  have hA : ∀ q : Nat, s.heap.size ≤ q → A q := fun q h => by rw [← hAe]; exact Or.inr h
  clear hAe hD0
  have hS : va_S A s.heap s.heap [] := va_S.rf
  have hl := lv_entry ([.ref a_model, .int (nI k)]) (n := 3) (Nat.le_of_ble_eq_true rfl)
  rw [lg_entry_eq]
  generalize (lg_sl ([.ref a_model, .int (nI k)]) ++ List.replicate (3 - (lg_sl ([.ref a_model, .int (nI k)])).length) Slot.unset).toArray = ls at hl ⊢
  have hl : lv_has ls 3 [(0, .ref a_model), (1, .int (nI k))] := hl
  have hR : p_mDrawn qpow qsteps qdraws k = (if (qpow (qsteps k).toNatClampNeg) ≤ (qdraws k) then (qpow (qsteps k).toNatClampNeg) else (qdraws k)) := rfl
  refine lv_aload_n hx hb d_Model_drawn_0 rfl (lv_at hl 0 rfl) ?_
  refine va_get (D := D) (ci := 5) (v := .ref a_qpow) (C := R_Model) (T := F_Model) (N := 31) hx hb (u_Model zh hZ) (fun _ h => h) hown hK hP 0 rfl rfl 12 (by decide) (wd zh hZ 614 q_614 rfl) (fun _ h9 => h9) rfl d_Model_drawn_1 ?_
  refine lv_aload_n hx hb d_Model_drawn_4 rfl (lv_at hl 0 rfl) ?_
  refine va_get (D := D) (ci := 5) (v := .ref a_qsteps) (C := R_Model) (T := F_Model) (N := 31) hx hb (u_Model zh hZ) (fun _ h => h) hown hK hP 0 rfl rfl 24 (by decide) (wd zh hZ 626 q_626 rfl) (fun _ h9 => h9) rfl d_Model_drawn_5 ?_
  refine lv_iload_n hx hb d_Model_drawn_8 rfl (lv_at hl 1 rfl) ?_
  refine nn_iald hx hb hK hP 2 0 rfl rfl (j := k) (by omega) (by decide) d_Model_drawn_9 ?_
  refine va_iald hx hb hK hP 1 0 rfl rfl (hst k hk) d_Model_drawn_10 ?_
  refine lv_istore_n (lv' := [(2, .int (qpow (qsteps k).toNatClampNeg)), (0, .ref a_model), (1, .int (nI k))]) hx hb d_Model_drawn_11 rfl hl (by decide) rfl (fun ls hl => ?_)
  refine lv_aload_n hx hb d_Model_drawn_12 rfl (lv_at hl 1 rfl) ?_
  refine va_get (D := D) (ci := 5) (v := .ref a_qdraws) (C := R_Model) (T := F_Model) (N := 31) hx hb (u_Model zh hZ) (fun _ h => h) hown hK hP 0 rfl rfl 29 (by decide) (wd zh hZ 631 q_631 rfl) (fun _ h9 => h9) rfl d_Model_drawn_13 ?_
  refine lv_iload_n hx hb d_Model_drawn_16 rfl (lv_at hl 2 rfl) ?_
  refine nn_iald hx hb hK hP 3 0 rfl rfl (j := k) (by omega) (by decide) d_Model_drawn_17 ?_
  refine lv_iload_n hx hb d_Model_drawn_18 rfl (lv_at hl 0 rfl) ?_
  refine lv_icmp_ge (tgt := 31) hx hb d_Model_drawn_19 (by decide) (fun h1 => ?_) (fun h1 => ?_)
  · have hR := hR.trans (if_pos h1)
    refine lv_iload_n hx hb d_Model_drawn_31 rfl (lv_at hl 0 rfl) ?_
    exact (W.iret (v := (qpow (qsteps k).toNatClampNeg)) hx hb hr (fun t9 ht hW => ⟨⟨(qpow (qsteps k).toNatClampNeg), (), rfl, hR.symm, by rw [ht]; exact hP, hD⟩, hS.F ht⟩) hS.2.2 d_Model_drawn_32).mono hQ
  · have hR := hR.trans (if_neg h1)
    refine lv_aload_n hx hb d_Model_drawn_22 rfl (lv_at hl 1 rfl) ?_
    refine va_get (D := D) (ci := 5) (v := .ref a_qdraws) (C := R_Model) (T := F_Model) (N := 31) hx hb (u_Model zh hZ) (fun _ h => h) hown hK hP 0 rfl rfl 29 (by decide) (wd zh hZ 631 q_631 rfl) (fun _ h9 => h9) rfl d_Model_drawn_23 ?_
    refine lv_iload_n hx hb d_Model_drawn_26 rfl (lv_at hl 2 rfl) ?_
    refine nn_iald hx hb hK hP 3 0 rfl rfl (j := k) (by omega) (by decide) d_Model_drawn_27 ?_
    refine lv_goto (tgt := 32) hx hb d_Model_drawn_28 (by decide) ?_
    exact (W.iret (v := (qdraws k)) hx hb hr (fun t9 ht hW => ⟨⟨(qdraws k), (), rfl, hR.symm, by rw [ht]; exact hP, hD⟩, hS.F ht⟩) hS.2.2 d_Model_drawn_32).mono hQ
