def p_gNeedIndex (i : Int32) (count : Int32) : Sum Nat (Unit) := if i < 0 then (Sum.inl 1) else (if i < count then (Sum.inr (())) else (Sum.inl 1))
set_option maxHeartbeats 1000000 in
set_option maxRecDepth 100000 in
theorem c_gNeedIndex (l : Launch) {z : State} {za : Array Value} (zh : ∀ w ∈ lw_tbl, w.before za z = true) (D : va_G) (cI cZ cJ : ClassId) (hfl : l.flags = pinnedFlags ++ [noTraceFlag]) (aT : Nat) (cT : Cell) (hTz : tz_S z aT cT) (sz : Nat) (i : Int32) (count : Int32) :
    tx_Met l y_Gov_needIndex [Cond.code y_Gov_needIndex prog_1_method_19_code 2 none] { frames := 6, cells := 1, slots := 6, locals := 90 } (va_Pc [.int i, .int count] (PreX aT cT (PreW z D classes cI cZ cJ sz []))) (tx_Or (tx_N (p_gNeedIndex i count)) (p_gNeedIndex i count)) 1 6 (va_A [] sz) := by
  refine tx_ofQ (cc := prog_1_method_19_code) (maxL := 2) (ret := none) (by decide +kernel) rfl ?_
  intro p e s m args below meth c s₁ Q B hml hout hv hQ hX
  obtain ⟨rfl, ⟨rfl, hZ, hP, hK, hD0⟩, hTc⟩ := hv
  have hx := B.exec
  have hb := B.bytes
  have hr := B.returns
  have hown : s.vm.findClass R_Gov = some m.cls := findClass_of_methodNamed B.named
  have hlocks := B.notSynchronized
  clear B
  have hD := hD0.self (sz := s.heap.size)
  generalize hAe : va_A [] s.heap.size = A at hD hQ hX
  have hA : ∀ q : Nat, s.heap.size ≤ q → A q := fun q h => by rw [← hAe]; exact Or.inr h
  clear hAe hD0
  have hS : va_S A s.heap s.heap [] := va_S.rf
  have hl := lv_entry ([.int i, .int count]) (n := 2) (Nat.le_of_ble_eq_true rfl)
  rw [lg_entry_eq]
  generalize (lg_sl ([.int i, .int count]) ++ List.replicate (2 - (lg_sl ([.int i, .int count])).length) Slot.unset).toArray = ls at hl ⊢
  have hl : lv_has ls 2 [(0, .int i), (1, .int count)] := hl
  have hR : p_gNeedIndex i count = (if i < 0 then (Sum.inl 1) else (if i < count then (Sum.inr (())) else (Sum.inl 1))) := rfl
  refine lv_iload_n hx hb d_Gov_needIndex_0 rfl (lv_at hl 0 rfl) ?_
  refine lv_if_lt (tgt := 9) hx hb d_Gov_needIndex_1 (by decide) (fun h1 => ?_) (fun h1 => ?_)
  · have hR := hR.trans (if_pos h1)
    exact tx_thr (n := 1) hfl hx hb hown (wd zh hZ 242 xq_242 rfl) (wd zh hZ 243 xq_243 rfl) (wd zh hZ 38 xq_38 rfl) (by decide) (tz_IO zh hZ hTz hTc) hlocks hout (by rw [hml]; exact hl.1) d_Gov_needIndex_9 d_Gov_needIndex_12 d_Gov_needIndex_13 d_Gov_needIndex_16 (by decide) (Nat.le_of_ble_eq_true rfl) (by decide) (by decide) rfl hR hX
  · have hR := hR.trans (if_neg h1)
    refine lv_iload_n hx hb d_Gov_needIndex_4 rfl (lv_at hl 0 rfl) ?_
    refine lv_iload_n hx hb d_Gov_needIndex_5 rfl (lv_at hl 1 rfl) ?_
    refine lv_icmp_lt (tgt := 17) hx hb d_Gov_needIndex_6 (by decide) (fun h2 => ?_) (fun h2 => ?_)
    · have hR := hR.trans (if_pos h2)
      exact (W.vret hx hb hr (fun t9 ht hW => ⟨rfl, hR.symm, ht⟩) hS.2.2 d_Gov_needIndex_17).mono hQ
    · have hR := hR.trans (if_neg h2)
      exact tx_thr (n := 1) hfl hx hb hown (wd zh hZ 242 xq_242 rfl) (wd zh hZ 243 xq_243 rfl) (wd zh hZ 38 xq_38 rfl) (by decide) (tz_IO zh hZ hTz hTc) hlocks hout (by rw [hml]; exact hl.1) d_Gov_needIndex_9 d_Gov_needIndex_12 d_Gov_needIndex_13 d_Gov_needIndex_16 (by decide) (Nat.le_of_ble_eq_true rfl) (by decide) (by decide) rfl hR hX
def p_gNeedWithin (v : Int32) (least : Int32) (most : Int32) : Sum Nat (Unit) := if v < least then (Sum.inl 2) else (if v ≤ most then (Sum.inr (())) else (Sum.inl 2))
set_option maxHeartbeats 1000000 in
set_option maxRecDepth 100000 in
theorem c_gNeedWithin (l : Launch) {z : State} {za : Array Value} (zh : ∀ w ∈ lw_tbl, w.before za z = true) (D : va_G) (cI cZ cJ : ClassId) (hfl : l.flags = pinnedFlags ++ [noTraceFlag]) (aT : Nat) (cT : Cell) (hTz : tz_S z aT cT) (sz : Nat) (v : Int32) (least : Int32) (most : Int32) :
    tx_Met l y_Gov_needWithin [Cond.code y_Gov_needWithin prog_1_method_20_code 3 none] { frames := 6, cells := 1, slots := 6, locals := 90 } (va_Pc [.int v, .int least, .int most] (PreX aT cT (PreW z D classes cI cZ cJ sz []))) (tx_Or (tx_N (p_gNeedWithin v least most)) (p_gNeedWithin v least most)) 1 6 (va_A [] sz) := by
  refine tx_ofQ (cc := prog_1_method_20_code) (maxL := 3) (ret := none) (by decide +kernel) rfl ?_
  intro p e s m args below meth c s₁ Q B hml hout hv hQ hX
  obtain ⟨rfl, ⟨rfl, hZ, hP, hK, hD0⟩, hTc⟩ := hv
  have hx := B.exec
  have hb := B.bytes
  have hr := B.returns
  have hown : s.vm.findClass R_Gov = some m.cls := findClass_of_methodNamed B.named
  have hlocks := B.notSynchronized
  clear B
  have hD := hD0.self (sz := s.heap.size)
  generalize hAe : va_A [] s.heap.size = A at hD hQ hX
  have hA : ∀ q : Nat, s.heap.size ≤ q → A q := fun q h => by rw [← hAe]; exact Or.inr h
  clear hAe hD0
  have hS : va_S A s.heap s.heap [] := va_S.rf
  have hl := lv_entry ([.int v, .int least, .int most]) (n := 3) (Nat.le_of_ble_eq_true rfl)
  rw [lg_entry_eq]
  generalize (lg_sl ([.int v, .int least, .int most]) ++ List.replicate (3 - (lg_sl ([.int v, .int least, .int most])).length) Slot.unset).toArray = ls at hl ⊢
  have hl : lv_has ls 3 [(0, .int v), (1, .int least), (2, .int most)] := hl
  have hR : p_gNeedWithin v least most = (if v < least then (Sum.inl 2) else (if v ≤ most then (Sum.inr (())) else (Sum.inl 2))) := rfl
  refine lv_iload_n hx hb d_Gov_needWithin_0 rfl (lv_at hl 0 rfl) ?_
  refine lv_iload_n hx hb d_Gov_needWithin_1 rfl (lv_at hl 1 rfl) ?_
  refine lv_icmp_lt (tgt := 10) hx hb d_Gov_needWithin_2 (by decide) (fun h1 => ?_) (fun h1 => ?_)
  · have hR := hR.trans (if_pos h1)
    exact tx_thr (n := 2) hfl hx hb hown (wd zh hZ 308 xq_308 rfl) (wd zh hZ 309 xq_309 rfl) (wd zh hZ 39 xq_39 rfl) (by decide) (tz_IA zh hZ hTz hTc) hlocks hout (by rw [hml]; exact hl.1) d_Gov_needWithin_10 d_Gov_needWithin_13 d_Gov_needWithin_14 d_Gov_needWithin_17 (by decide) (Nat.le_of_ble_eq_true rfl) (by decide) (by decide) rfl hR hX
  · have hR := hR.trans (if_neg h1)
    refine lv_iload_n hx hb d_Gov_needWithin_5 rfl (lv_at hl 0 rfl) ?_
    refine lv_iload_n hx hb d_Gov_needWithin_6 rfl (lv_at hl 2 rfl) ?_
    refine lv_icmp_le (tgt := 18) hx hb d_Gov_needWithin_7 (by decide) (fun h2 => ?_) (fun h2 => ?_)
    · have hR := hR.trans (if_pos h2)
      exact (W.vret hx hb hr (fun t9 ht hW => ⟨rfl, hR.symm, ht⟩) hS.2.2 d_Gov_needWithin_18).mono hQ
    · have hR := hR.trans (if_neg h2)
      exact tx_thr (n := 2) hfl hx hb hown (wd zh hZ 308 xq_308 rfl) (wd zh hZ 309 xq_309 rfl) (wd zh hZ 39 xq_39 rfl) (by decide) (tz_IA zh hZ hTz hTc) hlocks hout (by rw [hml]; exact hl.1) d_Gov_needWithin_10 d_Gov_needWithin_13 d_Gov_needWithin_14 d_Gov_needWithin_17 (by decide) (Nat.le_of_ble_eq_true rfl) (by decide) (by decide) rfl hR hX
def p_gNeedRange (low : Int32) (high : Int32) (least : Int32) (most : Int32) : Sum Nat (Unit) := if low < least then (Sum.inl 2) else (if high < low then (Sum.inl 2) else (if high ≤ most then (Sum.inr (())) else (Sum.inl 2)))
set_option maxHeartbeats 1000000 in
set_option maxRecDepth 100000 in
theorem c_gNeedRange (l : Launch) {z : State} {za : Array Value} (zh : ∀ w ∈ lw_tbl, w.before za z = true) (D : va_G) (cI cZ cJ : ClassId) (hfl : l.flags = pinnedFlags ++ [noTraceFlag]) (aT : Nat) (cT : Cell) (hTz : tz_S z aT cT) (sz : Nat) (low : Int32) (high : Int32) (least : Int32) (most : Int32) :
    tx_Met l y_Gov_needRange [Cond.code y_Gov_needRange prog_1_method_21_code 4 none] { frames := 6, cells := 1, slots := 6, locals := 90 } (va_Pc [.int low, .int high, .int least, .int most] (PreX aT cT (PreW z D classes cI cZ cJ sz []))) (tx_Or (tx_N (p_gNeedRange low high least most)) (p_gNeedRange low high least most)) 1 6 (va_A [] sz) := by
  refine tx_ofQ (cc := prog_1_method_21_code) (maxL := 4) (ret := none) (by decide +kernel) rfl ?_
  intro p e s m args below meth c s₁ Q B hml hout hv hQ hX
  obtain ⟨rfl, ⟨rfl, hZ, hP, hK, hD0⟩, hTc⟩ := hv
  have hx := B.exec
  have hb := B.bytes
  have hr := B.returns
  have hown : s.vm.findClass R_Gov = some m.cls := findClass_of_methodNamed B.named
  have hlocks := B.notSynchronized
  clear B
  have hD := hD0.self (sz := s.heap.size)
  generalize hAe : va_A [] s.heap.size = A at hD hQ hX
  have hA : ∀ q : Nat, s.heap.size ≤ q → A q := fun q h => by rw [← hAe]; exact Or.inr h
  clear hAe hD0
  have hS : va_S A s.heap s.heap [] := va_S.rf
  have hl := lv_entry ([.int low, .int high, .int least, .int most]) (n := 4) (Nat.le_of_ble_eq_true rfl)
  rw [lg_entry_eq]
  generalize (lg_sl ([.int low, .int high, .int least, .int most]) ++ List.replicate (4 - (lg_sl ([.int low, .int high, .int least, .int most])).length) Slot.unset).toArray = ls at hl ⊢
  have hl : lv_has ls 4 [(0, .int low), (1, .int high), (2, .int least), (3, .int most)] := hl
  have hR : p_gNeedRange low high least most = (if low < least then (Sum.inl 2) else (if high < low then (Sum.inl 2) else (if high ≤ most then (Sum.inr (())) else (Sum.inl 2)))) := rfl
  refine lv_iload_n hx hb d_Gov_needRange_0 rfl (lv_at hl 0 rfl) ?_
  refine lv_iload_n hx hb d_Gov_needRange_1 rfl (lv_at hl 2 rfl) ?_
  refine lv_icmp_lt (tgt := 15) hx hb d_Gov_needRange_2 (by decide) (fun h1 => ?_) (fun h1 => ?_)
  · have hR := hR.trans (if_pos h1)
    exact tx_thr (n := 2) hfl hx hb hown (wd zh hZ 308 xq_308 rfl) (wd zh hZ 309 xq_309 rfl) (wd zh hZ 39 xq_39 rfl) (by decide) (tz_IA zh hZ hTz hTc) hlocks hout (by rw [hml]; exact hl.1) d_Gov_needRange_15 d_Gov_needRange_18 d_Gov_needRange_19 d_Gov_needRange_22 (by decide) (Nat.le_of_ble_eq_true rfl) (by decide) (by decide) rfl hR hX
  · have hR := hR.trans (if_neg h1)
    refine lv_iload_n hx hb d_Gov_needRange_5 rfl (lv_at hl 0 rfl) ?_
    refine lv_iload_n hx hb d_Gov_needRange_6 rfl (lv_at hl 1 rfl) ?_
    refine lv_icmp_gt (tgt := 15) hx hb d_Gov_needRange_7 (by decide) (fun h2 => ?_) (fun h2 => ?_)
    · have hR := hR.trans (if_pos h2)
      exact tx_thr (n := 2) hfl hx hb hown (wd zh hZ 308 xq_308 rfl) (wd zh hZ 309 xq_309 rfl) (wd zh hZ 39 xq_39 rfl) (by decide) (tz_IA zh hZ hTz hTc) hlocks hout (by rw [hml]; exact hl.1) d_Gov_needRange_15 d_Gov_needRange_18 d_Gov_needRange_19 d_Gov_needRange_22 (by decide) (Nat.le_of_ble_eq_true rfl) (by decide) (by decide) rfl hR hX
    · have hR := hR.trans (if_neg h2)
      refine lv_iload_n hx hb d_Gov_needRange_10 rfl (lv_at hl 1 rfl) ?_
      refine lv_iload_n hx hb d_Gov_needRange_11 rfl (lv_at hl 3 rfl) ?_
      refine lv_icmp_le (tgt := 23) hx hb d_Gov_needRange_12 (by decide) (fun h3 => ?_) (fun h3 => ?_)
      · have hR := hR.trans (if_pos h3)
        exact (W.vret hx hb hr (fun t9 ht hW => ⟨rfl, hR.symm, ht⟩) hS.2.2 d_Gov_needRange_23).mono hQ
      · have hR := hR.trans (if_neg h3)
        exact tx_thr (n := 2) hfl hx hb hown (wd zh hZ 308 xq_308 rfl) (wd zh hZ 309 xq_309 rfl) (wd zh hZ 39 xq_39 rfl) (by decide) (tz_IA zh hZ hTz hTc) hlocks hout (by rw [hml]; exact hl.1) d_Gov_needRange_15 d_Gov_needRange_18 d_Gov_needRange_19 d_Gov_needRange_22 (by decide) (Nat.le_of_ble_eq_true rfl) (by decide) (by decide) rfl hR hX
def p_gNeedSealed (sealed : Int32) : Sum Nat (Unit) := if sealed = 0 then (Sum.inl 3) else (Sum.inr (()))
set_option maxHeartbeats 1000000 in
set_option maxRecDepth 100000 in
theorem c_gNeedSealed (l : Launch) {z : State} {za : Array Value} (zh : ∀ w ∈ lw_tbl, w.before za z = true) (D : va_G) (cI cZ cJ : ClassId) (hfl : l.flags = pinnedFlags ++ [noTraceFlag]) (aT : Nat) (cT : Cell) (hTz : tz_S z aT cT) (a_gov : Nat) (a_chip : Nat) (a_outlook : Nat) (a_nodes : Nat) (a_cores : Nat) (a_looked : Nat) (sz : Nat) (sealed : Int32) :
    tx_Met l y_Gov_needSealed [Cond.code y_Gov_needSealed prog_1_method_22_code 1 none] { frames := 6, cells := 1, slots := 6, locals := 90 } (va_Pc [.ref a_gov] (PreX aT cT (PreW z D classes cI cZ cJ sz [(a_gov, .inr (0, [.ref a_chip, .ref a_outlook, .ref a_nodes, .ref a_cores, .ref a_looked, .int sealed]))]))) (tx_Or (tx_N (p_gNeedSealed sealed)) (p_gNeedSealed sealed)) 1 6 (va_A [(a_gov, .inr (0, [.ref a_chip, .ref a_outlook, .ref a_nodes, .ref a_cores, .ref a_looked, .int sealed]))] sz) := by
  refine tx_ofQ (cc := prog_1_method_22_code) (maxL := 1) (ret := none) (by decide +kernel) rfl ?_
  intro p e s m args below meth c s₁ Q B hml hout hv hQ hX
  obtain ⟨rfl, ⟨rfl, hZ, hP, hK, hD0⟩, hTc⟩ := hv
  have hx := B.exec
  have hb := B.bytes
  have hr := B.returns
  have hown : s.vm.findClass R_Gov = some m.cls := findClass_of_methodNamed B.named
  have hlocks := B.notSynchronized
  clear B
  have hD := hD0.self (sz := s.heap.size)
  generalize hAe : va_A [(a_gov, .inr (0, [.ref a_chip, .ref a_outlook, .ref a_nodes, .ref a_cores, .ref a_looked, .int sealed]))] s.heap.size = A at hD hQ hX
  have hA : ∀ q : Nat, s.heap.size ≤ q → A q := fun q h => by rw [← hAe]; exact Or.inr h
  clear hAe hD0
  have hS : va_S A s.heap s.heap [] := va_S.rf
  have hl := lv_entry ([.ref a_gov]) (n := 1) (Nat.le_of_ble_eq_true rfl)
  rw [lg_entry_eq]
  generalize (lg_sl ([.ref a_gov]) ++ List.replicate (1 - (lg_sl ([.ref a_gov])).length) Slot.unset).toArray = ls at hl ⊢
  have hl : lv_has ls 1 [(0, .ref a_gov)] := hl
  have hR : p_gNeedSealed sealed = (if sealed = 0 then (Sum.inl 3) else (Sum.inr (()))) := rfl
  refine lv_aload_n hx hb d_Gov_needSealed_0 rfl (lv_at hl 0 rfl) ?_
  refine va_get (D := D) (ci := 0) (v := .int sealed) (C := R_Gov) (T := F_Gov) (N := 6) hx hb (u_Gov zh hZ) (fun _ h => h) hown hK hP 0 rfl rfl 5 (by decide) (wd zh hZ 210 q_210 rfl) (fun _ h9 => h9) rfl d_Gov_needSealed_1 ?_
  refine lv_if_ne (tgt := 15) hx hb d_Gov_needSealed_4 (by decide) (fun h1 => ?_) (fun h1 => ?_)
  · have hR := hR.trans (if_neg h1)
    exact (W.vret hx hb hr (fun t9 ht hW => ⟨rfl, hR.symm, ht⟩) hS.2.2 d_Gov_needSealed_15).mono hQ
  · have hR := hR.trans (if_pos h1)
    exact tx_thr (n := 3) hfl hx hb hown (wd zh hZ 327 xq_327 rfl) (wd zh hZ 328 xq_328 rfl) (wd zh hZ 40 xq_40 rfl) (by decide) (tz_IS zh hZ hTz hTc) hlocks hout (by rw [hml]; exact hl.1) d_Gov_needSealed_7 d_Gov_needSealed_10 d_Gov_needSealed_11 d_Gov_needSealed_14 (by decide) (Nat.le_of_ble_eq_true rfl) (by decide) (by decide) rfl hR hX
def p_gNeedUnsealed (sealed : Int32) : Sum Nat (Unit) := if sealed = 0 then (Sum.inr (())) else (Sum.inl 3)
set_option maxHeartbeats 1000000 in
set_option maxRecDepth 100000 in
theorem c_gNeedUnsealed (l : Launch) {z : State} {za : Array Value} (zh : ∀ w ∈ lw_tbl, w.before za z = true) (D : va_G) (cI cZ cJ : ClassId) (hfl : l.flags = pinnedFlags ++ [noTraceFlag]) (aT : Nat) (cT : Cell) (hTz : tz_S z aT cT) (a_gov : Nat) (a_chip : Nat) (a_outlook : Nat) (a_nodes : Nat) (a_cores : Nat) (a_looked : Nat) (sz : Nat) (sealed : Int32) :
    tx_Met l y_Gov_needUnsealed [Cond.code y_Gov_needUnsealed prog_1_method_23_code 1 none] { frames := 6, cells := 1, slots := 6, locals := 90 } (va_Pc [.ref a_gov] (PreX aT cT (PreW z D classes cI cZ cJ sz [(a_gov, .inr (0, [.ref a_chip, .ref a_outlook, .ref a_nodes, .ref a_cores, .ref a_looked, .int sealed]))]))) (tx_Or (tx_N (p_gNeedUnsealed sealed)) (p_gNeedUnsealed sealed)) 1 6 (va_A [(a_gov, .inr (0, [.ref a_chip, .ref a_outlook, .ref a_nodes, .ref a_cores, .ref a_looked, .int sealed]))] sz) := by
  refine tx_ofQ (cc := prog_1_method_23_code) (maxL := 1) (ret := none) (by decide +kernel) rfl ?_
  intro p e s m args below meth c s₁ Q B hml hout hv hQ hX
  obtain ⟨rfl, ⟨rfl, hZ, hP, hK, hD0⟩, hTc⟩ := hv
  have hx := B.exec
  have hb := B.bytes
  have hr := B.returns
  have hown : s.vm.findClass R_Gov = some m.cls := findClass_of_methodNamed B.named
  have hlocks := B.notSynchronized
  clear B
  have hD := hD0.self (sz := s.heap.size)
  generalize hAe : va_A [(a_gov, .inr (0, [.ref a_chip, .ref a_outlook, .ref a_nodes, .ref a_cores, .ref a_looked, .int sealed]))] s.heap.size = A at hD hQ hX
  have hA : ∀ q : Nat, s.heap.size ≤ q → A q := fun q h => by rw [← hAe]; exact Or.inr h
  clear hAe hD0
  have hS : va_S A s.heap s.heap [] := va_S.rf
  have hl := lv_entry ([.ref a_gov]) (n := 1) (Nat.le_of_ble_eq_true rfl)
  rw [lg_entry_eq]
  generalize (lg_sl ([.ref a_gov]) ++ List.replicate (1 - (lg_sl ([.ref a_gov])).length) Slot.unset).toArray = ls at hl ⊢
  have hl : lv_has ls 1 [(0, .ref a_gov)] := hl
  have hR : p_gNeedUnsealed sealed = (if sealed = 0 then (Sum.inr (())) else (Sum.inl 3)) := rfl
  refine lv_aload_n hx hb d_Gov_needUnsealed_0 rfl (lv_at hl 0 rfl) ?_
  refine va_get (D := D) (ci := 0) (v := .int sealed) (C := R_Gov) (T := F_Gov) (N := 6) hx hb (u_Gov zh hZ) (fun _ h => h) hown hK hP 0 rfl rfl 5 (by decide) (wd zh hZ 210 q_210 rfl) (fun _ h9 => h9) rfl d_Gov_needUnsealed_1 ?_
  refine lv_if_eq (tgt := 15) hx hb d_Gov_needUnsealed_4 (by decide) (fun h1 => ?_) (fun h1 => ?_)
  · have hR := hR.trans (if_pos h1)
    exact (W.vret hx hb hr (fun t9 ht hW => ⟨rfl, hR.symm, ht⟩) hS.2.2 d_Gov_needUnsealed_15).mono hQ
  · have hR := hR.trans (if_neg h1)
    exact tx_thr (n := 3) hfl hx hb hown (wd zh hZ 327 xq_327 rfl) (wd zh hZ 328 xq_328 rfl) (wd zh hZ 40 xq_40 rfl) (by decide) (tz_IS zh hZ hTz hTc) hlocks hout (by rw [hml]; exact hl.1) d_Gov_needUnsealed_7 d_Gov_needUnsealed_10 d_Gov_needUnsealed_11 d_Gov_needUnsealed_14 (by decide) (Nat.le_of_ble_eq_true rfl) (by decide) (by decide) rfl hR hX
