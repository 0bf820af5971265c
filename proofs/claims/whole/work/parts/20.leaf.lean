def p_floorDiv (x : Int32) (y : Int32) : Int32 := if 0 ≤ (x ^^^ y) then (x / y) else (if ((x / y) * y) = x then (x / y) else ((x / y) - (nI 1)))
set_option maxHeartbeats 1000000 in
set_option maxRecDepth 100000 in
theorem c_floorDiv (l : Launch) {z : State} {za : Array Value} (zh : ∀ w ∈ lw_tbl, w.before za z = true) (D : va_G) (cI cZ cJ : ClassId) (sz : Nat) (x : Int32) (y : Int32) (hy : ¬ y = 0) :
    Met l y_Math_floorDiv [Cond.code y_Math_floorDiv prog_12_method_47_code 3 (some .int)] { frames := 0, cells := 0, slots := 0, locals := 0 } (va_Pc [.int x, .int y] (PreW z D classes cI cZ cJ sz [])) (va_Qi (fun (r : Int32) (_ : Unit) => r = p_floorDiv x y) (fun u => PostW D classes (va_A [] sz) []) (va_A [] sz)) 0 0 (va_A [] sz) := by
  refine Met.ofQF (cc := prog_12_method_47_code) (maxL := 3) (ret := (some .int)) (by decide +kernel) rfl ?_
  intro p e s m args below meth c s₁ Q B hml hv hQ
  obtain ⟨rfl, rfl, hZ, hP, hK, hD0⟩ := hv
  have hx := B.exec
  have hb := B.bytes
  have hr := B.returns
  have hown : s.vm.findClass R_Math = some m.cls := findClass_of_methodNamed B.named
  have hlocks := B.notSynchronized
  clear B
  have hD := hD0.self (sz := s.heap.size)
  generalize hAe : va_A [] s.heap.size = A at hD hQ
  have hA : ∀ q : Nat, s.heap.size ≤ q → A q := fun q h => by rw [← hAe]; exact Or.inr h
  clear hAe hD0
  have hS : va_S A s.heap s.heap [] := va_S.rf
  have hl := lv_entry ([.int x, .int y]) (n := 3) (Nat.le_of_ble_eq_true rfl)
  rw [lg_entry_eq]
  generalize (lg_sl ([.int x, .int y]) ++ List.replicate (3 - (lg_sl ([.int x, .int y])).length) Slot.unset).toArray = ls at hl ⊢
  have hl : lv_has ls 3 [(0, .int x), (1, .int y)] := hl
  have hR : p_floorDiv x y = (if 0 ≤ (x ^^^ y) then (x / y) else (if ((x / y) * y) = x then (x / y) else ((x / y) - (nI 1)))) := rfl
  refine lv_iload_n hx hb d_Math_floorDiv_0 rfl (lv_at hl 0 rfl) ?_
  refine lv_iload_n hx hb d_Math_floorDiv_1 rfl (lv_at hl 1 rfl) ?_
  refine lv_idiv hx hb d_Math_floorDiv_2 hy ?_
  refine lv_istore_n (lv' := [(2, .int (x / y)), (0, .int x), (1, .int y)]) hx hb d_Math_floorDiv_3 rfl hl (by decide) rfl (fun ls hl => ?_)
  refine lv_iload_n hx hb d_Math_floorDiv_4 rfl (lv_at hl 1 rfl) ?_
  refine lv_iload_n hx hb d_Math_floorDiv_5 rfl (lv_at hl 2 rfl) ?_
  refine lv_ixor hx hb d_Math_floorDiv_6 ?_
  refine lv_if_ge (tgt := 21) hx hb d_Math_floorDiv_7 (by decide) (fun h1 => ?_) (fun h1 => ?_)
  · have hR := hR.trans (if_pos h1)
    refine lv_iload_n hx hb d_Math_floorDiv_21 rfl (lv_at hl 0 rfl) ?_
    exact (W.iret (v := (x / y)) hx hb hr (fun t9 ht hW => ⟨⟨(x / y), (), rfl, hR.symm, by rw [ht]; exact hP, hD⟩, hS.F ht⟩) hS.2.2 d_Math_floorDiv_22).mono hQ
  · have hR := hR.trans (if_neg h1)
    refine lv_iload_n hx hb d_Math_floorDiv_10 rfl (lv_at hl 0 rfl) ?_
    refine lv_iload_n hx hb d_Math_floorDiv_11 rfl (lv_at hl 2 rfl) ?_
    refine lv_imul hx hb d_Math_floorDiv_12 ?_
    refine lv_iload_n hx hb d_Math_floorDiv_13 rfl (lv_at hl 1 rfl) ?_
    refine lv_icmp_eq (tgt := 21) hx hb d_Math_floorDiv_14 (by decide) (fun h2 => ?_) (fun h2 => ?_)
    · have hR := hR.trans (if_pos h2)
      refine lv_iload_n hx hb d_Math_floorDiv_21 rfl (lv_at hl 0 rfl) ?_
      exact (W.iret (v := (x / y)) hx hb hr (fun t9 ht hW => ⟨⟨(x / y), (), rfl, hR.symm, by rw [ht]; exact hP, hD⟩, hS.F ht⟩) hS.2.2 d_Math_floorDiv_22).mono hQ
    · have hR := hR.trans (if_neg h2)
      refine lv_iload_n hx hb d_Math_floorDiv_17 rfl (lv_at hl 0 rfl) ?_
      refine lv_iconst (v := nI 1) hx hb d_Math_floorDiv_18 (by decide) ?_
      refine lv_isub hx hb d_Math_floorDiv_19 ?_
      exact (W.iret (v := ((x / y) - (nI 1))) hx hb hr (fun t9 ht hW => ⟨⟨((x / y) - (nI 1)), (), rfl, hR.symm, by rw [ht]; exact hP, hD⟩, hS.F ht⟩) hS.2.2 d_Math_floorDiv_20).mono hQ
def p_between (a : Nat) (b : Nat) : Int32 := nI ((a * 7) + b)
set_option maxHeartbeats 1000000 in
set_option maxRecDepth 100000 in
theorem c_between (l : Launch) {z : State} {za : Array Value} (zh : ∀ w ∈ lw_tbl, w.before za z = true) (D : va_G) (cI cZ cJ : ClassId) (sz : Nat) (a : Nat) (b : Nat) :
    Met l y_Gov_between [Cond.code y_Gov_between prog_1_method_24_code 2 (some .int)] { frames := 0, cells := 0, slots := 0, locals := 0 } (va_Pc [.int (nI a), .int (nI b)] (PreW z D classes cI cZ cJ sz [])) (va_Qi (fun (r : Int32) (_ : Unit) => r = p_between a b) (fun u => PostW D classes (va_A [] sz) []) (va_A [] sz)) 0 0 (va_A [] sz) := by
  refine Met.ofQ (cc := prog_1_method_24_code) (maxL := 2) (ret := (some .int)) (by decide +kernel) rfl ?_
  intro p e s m args below meth c s₁ Q B hml hv hQ
  obtain ⟨rfl, rfl, hZ, hP, hK, hD0⟩ := hv
  have hx := B.exec
  have hb := B.bytes
  have hr := B.returns
  have hown : s.vm.findClass R_Gov = some m.cls := findClass_of_methodNamed B.named
  have hlocks := B.notSynchronized
  clear B
  have hD := hD0.self (sz := s.heap.size)
  generalize hAe : va_A [] s.heap.size = A at hD hQ
  have hA : ∀ q : Nat, s.heap.size ≤ q → A q := fun q h => by rw [← hAe]; exact Or.inr h
  clear hAe hD0
  have hS : va_S A s.heap s.heap [] := va_S.rf
  have hl := lv_entry ([.int (nI a), .int (nI b)]) (n := 2) (Nat.le_of_ble_eq_true rfl)
  rw [lg_entry_eq]
  generalize (lg_sl ([.int (nI a), .int (nI b)]) ++ List.replicate (2 - (lg_sl ([.int (nI a), .int (nI b)])).length) Slot.unset).toArray = ls at hl ⊢
  have hl : lv_has ls 2 [(0, .int (nI a)), (1, .int (nI b))] := hl
  have hR : p_between a b = (nI ((a * 7) + b)) := rfl
  refine lv_iload_n hx hb d_Gov_between_0 rfl (lv_at hl 0 rfl) ?_
  refine lv_bipush (v := nI 7) hx hb d_Gov_between_1 (by decide) ?_
  refine nn_imul hx hb d_Gov_between_3 ?_
  refine lv_iload_n hx hb d_Gov_between_4 rfl (lv_at hl 1 rfl) ?_
  refine nn_iadd hx hb d_Gov_between_5 ?_
  exact (W.iret (v := nI ((a * 7) + b)) hx hb hr (fun t9 ht hW => ⟨⟨nI ((a * 7) + b), (), rfl, hR.symm, by rw [ht]; exact hP, hD⟩, hS.F ht⟩) hS.2.2 d_Gov_between_6).mono hQ
def p_leakAt (leakBase : Int32) (leakSlope : Int32) (leakSteep : Int32) (leakKnee : Int32) (t : Int32) : Int32 := if t ≤ leakKnee then ((leakBase + (leakSlope * t)) + (leakSteep * (nI 0))) else ((leakBase + (leakSlope * t)) + (leakSteep * (t - leakKnee)))
set_option maxHeartbeats 1000000 in
set_option maxRecDepth 100000 in
theorem c_leakAt (l : Launch) {z : State} {za : Array Value} (zh : ∀ w ∈ lw_tbl, w.before za z = true) (D : va_G) (cI cZ cJ : ClassId) (a_chip : Nat) (a_lowCap : Nat) (a_highCap : Nat) (a_truCap : Nat) (a_lowE : Nat) (a_highE : Nat) (a_truE : Nat) (a_lim : Nat) (a_powr : Nat) (a_grow : Nat) (sz : Nat) (trueAir : Int32) (highAir : Int32) (leakBase : Int32) (leakSlope : Int32) (leakSteep : Int32) (leakKnee : Int32) (t : Int32) :
    Met l y_Chip_leakAt [Cond.code y_Chip_leakAt prog_2_method_11_code 3 (some .int)] { frames := 0, cells := 0, slots := 0, locals := 0 } (va_Pc [.ref a_chip, .int t] (PreW z D classes cI cZ cJ sz [(a_chip, .inr (1, [.ref a_lowCap, .ref a_highCap, .ref a_truCap, .ref a_lowE, .ref a_highE, .ref a_truE, .ref a_lim, .ref a_powr, .int trueAir, .int highAir, .int leakBase, .int leakSlope, .int leakSteep, .int leakKnee, .ref a_grow]))])) (va_Qi (fun (r : Int32) (_ : Unit) => r = p_leakAt leakBase leakSlope leakSteep leakKnee t) (fun u => PostW D classes (va_A [(a_chip, .inr (1, [.ref a_lowCap, .ref a_highCap, .ref a_truCap, .ref a_lowE, .ref a_highE, .ref a_truE, .ref a_lim, .ref a_powr, .int trueAir, .int highAir, .int leakBase, .int leakSlope, .int leakSteep, .int leakKnee, .ref a_grow]))] sz) [(a_chip, .inr (1, [.ref a_lowCap, .ref a_highCap, .ref a_truCap, .ref a_lowE, .ref a_highE, .ref a_truE, .ref a_lim, .ref a_powr, .int trueAir, .int highAir, .int leakBase, .int leakSlope, .int leakSteep, .int leakKnee, .ref a_grow]))]) (va_A [(a_chip, .inr (1, [.ref a_lowCap, .ref a_highCap, .ref a_truCap, .ref a_lowE, .ref a_highE, .ref a_truE, .ref a_lim, .ref a_powr, .int trueAir, .int highAir, .int leakBase, .int leakSlope, .int leakSteep, .int leakKnee, .ref a_grow]))] sz)) 0 0 (va_A [(a_chip, .inr (1, [.ref a_lowCap, .ref a_highCap, .ref a_truCap, .ref a_lowE, .ref a_highE, .ref a_truE, .ref a_lim, .ref a_powr, .int trueAir, .int highAir, .int leakBase, .int leakSlope, .int leakSteep, .int leakKnee, .ref a_grow]))] sz) := by
  refine Met.ofQ (cc := prog_2_method_11_code) (maxL := 3) (ret := (some .int)) (by decide +kernel) rfl ?_
  intro p e s m args below meth c s₁ Q B hml hv hQ
  obtain ⟨rfl, rfl, hZ, hP, hK, hD0⟩ := hv
  have hx := B.exec
  have hb := B.bytes
  have hr := B.returns
  have hown : s.vm.findClass R_Chip = some m.cls := findClass_of_methodNamed B.named
  have hlocks := B.notSynchronized
  clear B
  have hD := hD0.self (sz := s.heap.size)
  generalize hAe : va_A [(a_chip, .inr (1, [.ref a_lowCap, .ref a_highCap, .ref a_truCap, .ref a_lowE, .ref a_highE, .ref a_truE, .ref a_lim, .ref a_powr, .int trueAir, .int highAir, .int leakBase, .int leakSlope, .int leakSteep, .int leakKnee, .ref a_grow]))] s.heap.size = A at hD hQ
  have hA : ∀ q : Nat, s.heap.size ≤ q → A q := fun q h => by rw [← hAe]; exact Or.inr h
  clear hAe hD0
  have hS : va_S A s.heap s.heap [] := va_S.rf
  have hl := lv_entry ([.ref a_chip, .int t]) (n := 3) (Nat.le_of_ble_eq_true rfl)
  rw [lg_entry_eq]
  generalize (lg_sl ([.ref a_chip, .int t]) ++ List.replicate (3 - (lg_sl ([.ref a_chip, .int t])).length) Slot.unset).toArray = ls at hl ⊢
  have hl : lv_has ls 3 [(0, .ref a_chip), (1, .int t)] := hl
  have hR : p_leakAt leakBase leakSlope leakSteep leakKnee t = (if t ≤ leakKnee then ((leakBase + (leakSlope * t)) + (leakSteep * (nI 0))) else ((leakBase + (leakSlope * t)) + (leakSteep * (t - leakKnee)))) := rfl
  refine lv_iload_n hx hb d_Chip_leakAt_0 rfl (lv_at hl 1 rfl) ?_
  refine lv_aload_n hx hb d_Chip_leakAt_1 rfl (lv_at hl 0 rfl) ?_
  refine va_get (D := D) (ci := 1) (v := .int leakKnee) (C := R_Chip) (T := F_Chip) (N := 15) hx hb (u_Chip zh hZ) (fun _ h => h) hown hK hP 0 rfl rfl 13 (by decide) (wd zh hZ 93 q_93 rfl) (fun _ h9 => h9) rfl d_Chip_leakAt_2 ?_
  refine lv_icmp_le (tgt := 17) hx hb d_Chip_leakAt_5 (by decide) (fun h1 => ?_) (fun h1 => ?_)
  · have hR := hR.trans (if_pos h1)
    refine lv_iconst (v := nI 0) hx hb d_Chip_leakAt_17 (by decide) ?_
    refine lv_istore_n (lv' := [(2, .int (nI 0)), (0, .ref a_chip), (1, .int t)]) hx hb d_Chip_leakAt_18 rfl hl (by decide) rfl (fun ls hl => ?_)
    refine lv_aload_n hx hb d_Chip_leakAt_19 rfl (lv_at hl 1 rfl) ?_
    refine va_get (D := D) (ci := 1) (v := .int leakBase) (C := R_Chip) (T := F_Chip) (N := 15) hx hb (u_Chip zh hZ) (fun _ h => h) hown hK hP 0 rfl rfl 10 (by decide) (wd zh hZ 90 q_90 rfl) (fun _ h9 => h9) rfl d_Chip_leakAt_20 ?_
    refine lv_aload_n hx hb d_Chip_leakAt_23 rfl (lv_at hl 1 rfl) ?_
    refine va_get (D := D) (ci := 1) (v := .int leakSlope) (C := R_Chip) (T := F_Chip) (N := 15) hx hb (u_Chip zh hZ) (fun _ h => h) hown hK hP 0 rfl rfl 11 (by decide) (wd zh hZ 91 q_91 rfl) (fun _ h9 => h9) rfl d_Chip_leakAt_24 ?_
    refine lv_iload_n hx hb d_Chip_leakAt_27 rfl (lv_at hl 2 rfl) ?_
    refine lv_imul hx hb d_Chip_leakAt_28 ?_
    refine lv_iadd hx hb d_Chip_leakAt_29 ?_
    refine lv_aload_n hx hb d_Chip_leakAt_30 rfl (lv_at hl 1 rfl) ?_
    refine va_get (D := D) (ci := 1) (v := .int leakSteep) (C := R_Chip) (T := F_Chip) (N := 15) hx hb (u_Chip zh hZ) (fun _ h => h) hown hK hP 0 rfl rfl 12 (by decide) (wd zh hZ 92 q_92 rfl) (fun _ h9 => h9) rfl d_Chip_leakAt_31 ?_
    refine lv_iload_n hx hb d_Chip_leakAt_34 rfl (lv_at hl 0 rfl) ?_
    refine lv_imul hx hb d_Chip_leakAt_35 ?_
    refine lv_iadd hx hb d_Chip_leakAt_36 ?_
    exact (W.iret (v := ((leakBase + (leakSlope * t)) + (leakSteep * (nI 0)))) hx hb hr (fun t9 ht hW => ⟨⟨((leakBase + (leakSlope * t)) + (leakSteep * (nI 0))), (), rfl, hR.symm, by rw [ht]; exact hP, hD⟩, hS.F ht⟩) hS.2.2 d_Chip_leakAt_37).mono hQ
  · have hR := hR.trans (if_neg h1)
    refine lv_iload_n hx hb d_Chip_leakAt_8 rfl (lv_at hl 1 rfl) ?_
    refine lv_aload_n hx hb d_Chip_leakAt_9 rfl (lv_at hl 0 rfl) ?_
    refine va_get (D := D) (ci := 1) (v := .int leakKnee) (C := R_Chip) (T := F_Chip) (N := 15) hx hb (u_Chip zh hZ) (fun _ h => h) hown hK hP 0 rfl rfl 13 (by decide) (wd zh hZ 93 q_93 rfl) (fun _ h9 => h9) rfl d_Chip_leakAt_10 ?_
    refine lv_isub hx hb d_Chip_leakAt_13 ?_
    refine lv_goto (tgt := 18) hx hb d_Chip_leakAt_14 (by decide) ?_
    refine lv_istore_n (lv' := [(2, .int (t - leakKnee)), (0, .ref a_chip), (1, .int t)]) hx hb d_Chip_leakAt_18 rfl hl (by decide) rfl (fun ls hl => ?_)
    refine lv_aload_n hx hb d_Chip_leakAt_19 rfl (lv_at hl 1 rfl) ?_
    refine va_get (D := D) (ci := 1) (v := .int leakBase) (C := R_Chip) (T := F_Chip) (N := 15) hx hb (u_Chip zh hZ) (fun _ h => h) hown hK hP 0 rfl rfl 10 (by decide) (wd zh hZ 90 q_90 rfl) (fun _ h9 => h9) rfl d_Chip_leakAt_20 ?_
    refine lv_aload_n hx hb d_Chip_leakAt_23 rfl (lv_at hl 1 rfl) ?_
    refine va_get (D := D) (ci := 1) (v := .int leakSlope) (C := R_Chip) (T := F_Chip) (N := 15) hx hb (u_Chip zh hZ) (fun _ h => h) hown hK hP 0 rfl rfl 11 (by decide) (wd zh hZ 91 q_91 rfl) (fun _ h9 => h9) rfl d_Chip_leakAt_24 ?_
    refine lv_iload_n hx hb d_Chip_leakAt_27 rfl (lv_at hl 2 rfl) ?_
    refine lv_imul hx hb d_Chip_leakAt_28 ?_
    refine lv_iadd hx hb d_Chip_leakAt_29 ?_
    refine lv_aload_n hx hb d_Chip_leakAt_30 rfl (lv_at hl 1 rfl) ?_
    refine va_get (D := D) (ci := 1) (v := .int leakSteep) (C := R_Chip) (T := F_Chip) (N := 15) hx hb (u_Chip zh hZ) (fun _ h => h) hown hK hP 0 rfl rfl 12 (by decide) (wd zh hZ 92 q_92 rfl) (fun _ h9 => h9) rfl d_Chip_leakAt_31 ?_
    refine lv_iload_n hx hb d_Chip_leakAt_34 rfl (lv_at hl 0 rfl) ?_
    refine lv_imul hx hb d_Chip_leakAt_35 ?_
    refine lv_iadd hx hb d_Chip_leakAt_36 ?_
    exact (W.iret (v := ((leakBase + (leakSlope * t)) + (leakSteep * (t - leakKnee)))) hx hb hr (fun t9 ht hW => ⟨⟨((leakBase + (leakSlope * t)) + (leakSteep * (t - leakKnee))), (), rfl, hR.symm, by rw [ht]; exact hP, hD⟩, hS.F ht⟩) hS.2.2 d_Chip_leakAt_37).mono hQ
def p_keepsLimits_2 (lim : Nat → Int32) (bnd : Nat → Int32) : Nat → Nat → Int32
  | 0, k => nI 1
  | r + 1, k => if (bnd k) ≤ (lim k) then (p_keepsLimits_2 lim bnd r (k + 1)) else (nI 0)
def p_keepsLimits (lim : Nat → Int32) (bnd : Nat → Int32) : Int32 := p_keepsLimits_2 lim bnd 6 0
set_option maxHeartbeats 1000000 in
set_option maxRecDepth 100000 in
theorem c_keepsLimits (l : Launch) {z : State} {za : Array Value} (zh : ∀ w ∈ lw_tbl, w.before za z = true) (D : va_G) (cI cZ cJ : ClassId) (a_chip : Nat) (a_lowCap : Nat) (a_highCap : Nat) (a_truCap : Nat) (a_lowE : Nat) (a_highE : Nat) (a_truE : Nat) (a_lim : Nat) (a_powr : Nat) (a_grow : Nat) (a_bnd : Nat) (sz : Nat) (trueAir : Int32) (highAir : Int32) (leakBase : Int32) (leakSlope : Int32) (leakSteep : Int32) (leakKnee : Int32) (lim : Nat → Int32) (bnd : Nat → Int32) :
    Met l y_Chip_keepsLimits [Cond.code y_Chip_keepsLimits prog_2_method_10_code 3 (some .boolean)] { frames := 0, cells := 0, slots := 0, locals := 0 } (va_Pc [.ref a_chip, .ref a_bnd] (PreW z D classes cI cZ cJ sz [(a_chip, .inr (1, [.ref a_lowCap, .ref a_highCap, .ref a_truCap, .ref a_lowE, .ref a_highE, .ref a_truE, .ref a_lim, .ref a_powr, .int trueAir, .int highAir, .int leakBase, .int leakSlope, .int leakSteep, .int leakKnee, .ref a_grow])), (a_lim, .inl (cI, 6, .inl lim)), (a_bnd, .inl (cI, 7, .inl bnd))])) (va_Qi (fun (r : Int32) (_ : Unit) => r = p_keepsLimits lim bnd) (fun u => PostW D classes (va_A [(a_chip, .inr (1, [.ref a_lowCap, .ref a_highCap, .ref a_truCap, .ref a_lowE, .ref a_highE, .ref a_truE, .ref a_lim, .ref a_powr, .int trueAir, .int highAir, .int leakBase, .int leakSlope, .int leakSteep, .int leakKnee, .ref a_grow])), (a_lim, .inl (cI, 6, .inl lim)), (a_bnd, .inl (cI, 7, .inl bnd))] sz) [(a_chip, .inr (1, [.ref a_lowCap, .ref a_highCap, .ref a_truCap, .ref a_lowE, .ref a_highE, .ref a_truE, .ref a_lim, .ref a_powr, .int trueAir, .int highAir, .int leakBase, .int leakSlope, .int leakSteep, .int leakKnee, .ref a_grow])), (a_lim, .inl (cI, 6, .inl lim)), (a_bnd, .inl (cI, 7, .inl bnd))]) (va_A [(a_chip, .inr (1, [.ref a_lowCap, .ref a_highCap, .ref a_truCap, .ref a_lowE, .ref a_highE, .ref a_truE, .ref a_lim, .ref a_powr, .int trueAir, .int highAir, .int leakBase, .int leakSlope, .int leakSteep, .int leakKnee, .ref a_grow])), (a_lim, .inl (cI, 6, .inl lim)), (a_bnd, .inl (cI, 7, .inl bnd))] sz)) 0 0 (va_A [(a_chip, .inr (1, [.ref a_lowCap, .ref a_highCap, .ref a_truCap, .ref a_lowE, .ref a_highE, .ref a_truE, .ref a_lim, .ref a_powr, .int trueAir, .int highAir, .int leakBase, .int leakSlope, .int leakSteep, .int leakKnee, .ref a_grow])), (a_lim, .inl (cI, 6, .inl lim)), (a_bnd, .inl (cI, 7, .inl bnd))] sz) := by
  refine Met.ofQ (cc := prog_2_method_10_code) (maxL := 3) (ret := (some .boolean)) (by decide +kernel) rfl ?_
  intro p e s m args below meth c s₁ Q B hml hv hQ
  obtain ⟨rfl, rfl, hZ, hP, hK, hD0⟩ := hv
  have hx := B.exec
  have hb := B.bytes
  have hr := B.returns
  have hown : s.vm.findClass R_Chip = some m.cls := findClass_of_methodNamed B.named
  have hlocks := B.notSynchronized
  clear B
  have hD := hD0.self (sz := s.heap.size)
  generalize hAe : va_A [(a_chip, .inr (1, [.ref a_lowCap, .ref a_highCap, .ref a_truCap, .ref a_lowE, .ref a_highE, .ref a_truE, .ref a_lim, .ref a_powr, .int trueAir, .int highAir, .int leakBase, .int leakSlope, .int leakSteep, .int leakKnee, .ref a_grow])), (a_lim, .inl (cI, 6, .inl lim)), (a_bnd, .inl (cI, 7, .inl bnd))] s.heap.size = A at hD hQ
  have hA : ∀ q : Nat, s.heap.size ≤ q → A q := fun q h => by rw [← hAe]; exact Or.inr h
  clear hAe hD0
  have hS : va_S A s.heap s.heap [] := va_S.rf
  have hl := lv_entry ([.ref a_chip, .ref a_bnd]) (n := 3) (Nat.le_of_ble_eq_true rfl)
  rw [lg_entry_eq]
  generalize (lg_sl ([.ref a_chip, .ref a_bnd]) ++ List.replicate (3 - (lg_sl ([.ref a_chip, .ref a_bnd])).length) Slot.unset).toArray = ls at hl ⊢
  have hl : lv_has ls 3 [(0, .ref a_chip), (1, .ref a_bnd)] := hl
  have hR : p_keepsLimits lim bnd = (p_keepsLimits_2 lim bnd 6 0) := rfl
  refine lv_iconst (v := nI 0) hx hb d_Chip_keepsLimits_0 (by decide) ?_
  refine lv_istore_n (lv' := [(2, .int (nI 0)), (0, .ref a_chip), (1, .ref a_bnd)]) hx hb d_Chip_keepsLimits_1 rfl hl (by decide) rfl (fun ls hl => ?_)
  have key2 : ∀ (r : Nat) (k : Nat) (ls : Array Slot) (H : Heap) (locs : List Loc), k + r = 6 → lv_has ls 3 [(0, .ref a_chip), (1, .ref a_bnd), (2, .int (nI k))] → va_P D classes [(a_chip, .inr (1, [.ref a_lowCap, .ref a_highCap, .ref a_truCap, .ref a_lowE, .ref a_highE, .ref a_truE, .ref a_lim, .ref a_powr, .int trueAir, .int highAir, .int leakBase, .int leakSlope, .int leakSteep, .int leakKnee, .ref a_grow])), (a_lim, .inl (cI, 6, .inl lim)), (a_bnd, .inl (cI, 7, .inl bnd))] H → va_D A [(a_chip, .inr (1, [.ref a_lowCap, .ref a_highCap, .ref a_truCap, .ref a_lowE, .ref a_highE, .ref a_truE, .ref a_lim, .ref a_powr, .int trueAir, .int highAir, .int leakBase, .int leakSlope, .int leakSteep, .int leakKnee, .ref a_grow])), (a_lim, .inl (cI, 6, .inl lim)), (a_bnd, .inl (cI, 7, .inl bnd))] → va_S A s.heap H locs → p_keepsLimits lim bnd = p_keepsLimits_2 lim bnd r k → W p l e { frames := 0, cells := 0, slots := 0, locals := 0 } s m ([.ref a_chip, .ref a_bnd]).toArray below meth c H locs 0 0 Q (F0 m 2 ls []) := by
    intro r
    induction r with
    | zero =>
      intro k ls H locs hk hl hP hD hS hR
      obtain rfl : k = 6 := by omega
      have hR : p_keepsLimits lim bnd = (nI 1) := hR.trans rfl
      refine lv_iload_n hx hb d_Chip_keepsLimits_2 rfl (lv_at hl 2 rfl) ?_
      refine lv_bipush (v := nI 6) hx hb d_Chip_keepsLimits_3 (by decide) ?_
      refine nn_icmp_ge (tgt := 28) hx hb (by omega) (by omega) d_Chip_keepsLimits_5 (by decide) (fun _ => ?_) (fun h => absurd (by omega) h)
      refine lv_iconst (v := nI 1) hx hb d_Chip_keepsLimits_28 (by decide) ?_
      exact (W.zret (v := nI 1) (ty := .boolean) hx hb hr rfl (fun t9 ht hW => ⟨⟨nI 1, (), rfl, hR.symm, by rw [ht]; exact hP, hD⟩, hS.F ht⟩) hS.2.2 d_Chip_keepsLimits_29).mono hQ
    | succ r ih =>
      intro k ls H locs hk hl hP hD hS hR
      have hk1 : k < 6 := by omega
      have hR : p_keepsLimits lim bnd = (if (bnd k) ≤ (lim k) then (p_keepsLimits_2 lim bnd r (k + 1)) else (nI 0)) := hR.trans rfl
      refine lv_iload_n hx hb d_Chip_keepsLimits_2 rfl (lv_at hl 2 rfl) ?_
      refine lv_bipush (v := nI 6) hx hb d_Chip_keepsLimits_3 (by decide) ?_
      refine nn_icmp_ge (tgt := 28) hx hb (by omega) (by omega) d_Chip_keepsLimits_5 (by decide) (fun h => absurd h (by omega)) (fun _ => ?_)
      refine lv_aload_n hx hb d_Chip_keepsLimits_8 rfl (lv_at hl 1 rfl) ?_
      refine lv_iload_n hx hb d_Chip_keepsLimits_9 rfl (lv_at hl 2 rfl) ?_
      refine nn_iald hx hb hK hP 2 0 rfl rfl (j := k) (by omega) (by decide) d_Chip_keepsLimits_10 ?_
      refine lv_aload_n hx hb d_Chip_keepsLimits_11 rfl (lv_at hl 0 rfl) ?_
      refine va_get (D := D) (ci := 1) (v := .ref a_lim) (C := R_Chip) (T := F_Chip) (N := 15) hx hb (u_Chip zh hZ) (fun _ h => h) hown hK hP 0 rfl rfl 6 (by decide) (wd zh hZ 79 q_79 rfl) (fun _ h9 => h9) rfl d_Chip_keepsLimits_12 ?_
      refine lv_iload_n hx hb d_Chip_keepsLimits_15 rfl (lv_at hl 2 rfl) ?_
      refine nn_iald hx hb hK hP 1 0 rfl rfl (j := k) (by omega) (by decide) d_Chip_keepsLimits_16 ?_
      refine lv_icmp_le (tgt := 22) hx hb d_Chip_keepsLimits_17 (by decide) (fun h1 => ?_) (fun h1 => ?_)
      · have hR := hR.trans (if_pos h1)
        refine lv_iinc (k := 2) (v := nI (k + 1)) (lv' := [(2, .int (nI (k + 1))), (0, .ref a_chip), (1, .ref a_bnd)]) hx hb d_Chip_keepsLimits_22 hl rfl (by rw [show Int32.ofInt 1 = nI 1 from by decide, nI_add]) (by decide) rfl (fun ls hl => ?_)
        refine lv_goto (tgt := 2) hx hb d_Chip_keepsLimits_25 (by decide) ?_
        exact ih (k + 1) _ _ _ (by omega) (lv_sub hl [1, 2, 0] rfl) hP hD hS hR
      · have hR := hR.trans (if_neg h1)
        refine lv_iconst (v := nI 0) hx hb d_Chip_keepsLimits_20 (by decide) ?_
        exact (W.zret (v := nI 0) (ty := .boolean) hx hb hr rfl (fun t9 ht hW => ⟨⟨nI 0, (), rfl, hR.symm, by rw [ht]; exact hP, hD⟩, hS.F ht⟩) hS.2.2 d_Chip_keepsLimits_21).mono hQ
  exact key2 6 0 _ _ _ (by omega) (lv_sub hl [1, 2, 0] rfl) hP hD hS hR
def p_grow_4 (grow : Nat → Int32) : Nat → Nat → Int32 → (Nat → Int32) → Int32 × (Nat → Int32)
  | 0, k, grew, tmp => (grew, tmp)
  | r + 1, k, grew, tmp => if (grow k) ≤ 0 then (p_grow_4 grow r (k + 1) (grew ||| (nI 0)) (upd tmp k ((tmp k) + (grow k)))) else (p_grow_4 grow r (k + 1) (grew ||| (nI 1)) (upd tmp k ((tmp k) + (grow k))))
def p_grow (grow : Nat → Int32) (bnd : Nat → Int32) : Int32 × (Nat → Int32) := p_grow_4 grow 6 0 (nI 0) bnd
set_option maxHeartbeats 1000000 in
set_option maxRecDepth 100000 in
theorem c_grow (l : Launch) {z : State} {za : Array Value} (zh : ∀ w ∈ lw_tbl, w.before za z = true) (D : va_G) (cI cZ cJ : ClassId) (a_chip : Nat) (a_lowCap : Nat) (a_highCap : Nat) (a_truCap : Nat) (a_lowE : Nat) (a_highE : Nat) (a_truE : Nat) (a_lim : Nat) (a_powr : Nat) (a_grow : Nat) (a_bnd : Nat) (sz : Nat) (trueAir : Int32) (highAir : Int32) (leakBase : Int32) (leakSlope : Int32) (leakSteep : Int32) (leakKnee : Int32) (grow : Nat → Int32) (bnd : Nat → Int32) :
    Met l y_Chip_grow [Cond.code y_Chip_grow prog_2_method_16_code 4 (some .boolean)] { frames := 0, cells := 0, slots := 0, locals := 0 } (va_Pc [.ref a_chip, .ref a_bnd] (PreW z D classes cI cZ cJ sz [(a_chip, .inr (1, [.ref a_lowCap, .ref a_highCap, .ref a_truCap, .ref a_lowE, .ref a_highE, .ref a_truE, .ref a_lim, .ref a_powr, .int trueAir, .int highAir, .int leakBase, .int leakSlope, .int leakSteep, .int leakKnee, .ref a_grow])), (a_grow, .inl (cI, 6, .inl grow)), (a_bnd, .inl (cI, 7, .inl bnd))])) (va_Qi (fun (r : Int32) (u : (Nat → Int32)) => (r, u) = p_grow grow bnd) (fun u => PostW D classes (va_A [(a_chip, .inr (1, [.ref a_lowCap, .ref a_highCap, .ref a_truCap, .ref a_lowE, .ref a_highE, .ref a_truE, .ref a_lim, .ref a_powr, .int trueAir, .int highAir, .int leakBase, .int leakSlope, .int leakSteep, .int leakKnee, .ref a_grow])), (a_grow, .inl (cI, 6, .inl grow)), (a_bnd, .inl (cI, 7, .inl bnd))] sz) [(a_chip, .inr (1, [.ref a_lowCap, .ref a_highCap, .ref a_truCap, .ref a_lowE, .ref a_highE, .ref a_truE, .ref a_lim, .ref a_powr, .int trueAir, .int highAir, .int leakBase, .int leakSlope, .int leakSteep, .int leakKnee, .ref a_grow])), (a_grow, .inl (cI, 6, .inl grow)), (a_bnd, .inl (cI, 7, .inl u))]) (va_A [(a_chip, .inr (1, [.ref a_lowCap, .ref a_highCap, .ref a_truCap, .ref a_lowE, .ref a_highE, .ref a_truE, .ref a_lim, .ref a_powr, .int trueAir, .int highAir, .int leakBase, .int leakSlope, .int leakSteep, .int leakKnee, .ref a_grow])), (a_grow, .inl (cI, 6, .inl grow)), (a_bnd, .inl (cI, 7, .inl bnd))] sz)) 0 0 (va_A [(a_chip, .inr (1, [.ref a_lowCap, .ref a_highCap, .ref a_truCap, .ref a_lowE, .ref a_highE, .ref a_truE, .ref a_lim, .ref a_powr, .int trueAir, .int highAir, .int leakBase, .int leakSlope, .int leakSteep, .int leakKnee, .ref a_grow])), (a_grow, .inl (cI, 6, .inl grow)), (a_bnd, .inl (cI, 7, .inl bnd))] sz) := by
  refine Met.ofQ (cc := prog_2_method_16_code) (maxL := 4) (ret := (some .boolean)) (by decide +kernel) rfl ?_
  intro p e s m args below meth c s₁ Q B hml hv hQ
  obtain ⟨rfl, rfl, hZ, hP, hK, hD0⟩ := hv
  have hx := B.exec
  have hb := B.bytes
  have hr := B.returns
  have hown : s.vm.findClass R_Chip = some m.cls := findClass_of_methodNamed B.named
  have hlocks := B.notSynchronized
  clear B
  have hD := hD0.self (sz := s.heap.size)
  generalize hAe : va_A [(a_chip, .inr (1, [.ref a_lowCap, .ref a_highCap, .ref a_truCap, .ref a_lowE, .ref a_highE, .ref a_truE, .ref a_lim, .ref a_powr, .int trueAir, .int highAir, .int leakBase, .int leakSlope, .int leakSteep, .int leakKnee, .ref a_grow])), (a_grow, .inl (cI, 6, .inl grow)), (a_bnd, .inl (cI, 7, .inl bnd))] s.heap.size = A at hD hQ
  have hA : ∀ q : Nat, s.heap.size ≤ q → A q := fun q h => by rw [← hAe]; exact Or.inr h
  clear hAe hD0
  have hS : va_S A s.heap s.heap [] := va_S.rf
  have hl := lv_entry ([.ref a_chip, .ref a_bnd]) (n := 4) (Nat.le_of_ble_eq_true rfl)
  rw [lg_entry_eq]
  generalize (lg_sl ([.ref a_chip, .ref a_bnd]) ++ List.replicate (4 - (lg_sl ([.ref a_chip, .ref a_bnd])).length) Slot.unset).toArray = ls at hl ⊢
  have hl : lv_has ls 4 [(0, .ref a_chip), (1, .ref a_bnd)] := hl
  have hR : p_grow grow bnd = (p_grow_4 grow 6 0 (nI 0) bnd) := rfl
  refine lv_iconst (v := nI 0) hx hb d_Chip_grow_0 (by decide) ?_
  refine lv_istore_n (lv' := [(2, .int (nI 0)), (0, .ref a_chip), (1, .ref a_bnd)]) hx hb d_Chip_grow_1 rfl hl (by decide) rfl (fun ls hl => ?_)
  refine lv_iconst (v := nI 0) hx hb d_Chip_grow_2 (by decide) ?_
  refine lv_istore_n (lv' := [(3, .int (nI 0)), (2, .int (nI 0)), (0, .ref a_chip), (1, .ref a_bnd)]) hx hb d_Chip_grow_3 rfl hl (by decide) rfl (fun ls hl => ?_)
  have key4 : ∀ (r : Nat) (k : Nat) (grew : Int32) (tmp : Nat → Int32) (ls : Array Slot) (H : Heap) (locs : List Loc), k + r = 6 → (grew = 0 ∨ grew = 1) → lv_has ls 4 [(0, .ref a_chip), (1, .ref a_bnd), (2, .int grew), (3, .int (nI k))] → va_P D classes [(a_chip, .inr (1, [.ref a_lowCap, .ref a_highCap, .ref a_truCap, .ref a_lowE, .ref a_highE, .ref a_truE, .ref a_lim, .ref a_powr, .int trueAir, .int highAir, .int leakBase, .int leakSlope, .int leakSteep, .int leakKnee, .ref a_grow])), (a_grow, .inl (cI, 6, .inl grow)), (a_bnd, .inl (cI, 7, .inl tmp))] H → va_D A [(a_chip, .inr (1, [.ref a_lowCap, .ref a_highCap, .ref a_truCap, .ref a_lowE, .ref a_highE, .ref a_truE, .ref a_lim, .ref a_powr, .int trueAir, .int highAir, .int leakBase, .int leakSlope, .int leakSteep, .int leakKnee, .ref a_grow])), (a_grow, .inl (cI, 6, .inl grow)), (a_bnd, .inl (cI, 7, .inl tmp))] → va_S A s.heap H locs → p_grow grow bnd = p_grow_4 grow r k grew tmp → W p l e { frames := 0, cells := 0, slots := 0, locals := 0 } s m ([.ref a_chip, .ref a_bnd]).toArray below meth c H locs 0 0 Q (F0 m 4 ls []) := by
    intro r
    induction r with
    | zero =>
      intro k grew tmp ls H locs hk hg hl hP hD hS hR
      obtain rfl : k = 6 := by omega
      have hR : p_grow grow bnd = ((grew, tmp)) := hR.trans rfl
      refine lv_iload_n hx hb d_Chip_grow_4 rfl (lv_at hl 3 rfl) ?_
      refine lv_bipush (v := nI 6) hx hb d_Chip_grow_5 (by decide) ?_
      refine nn_icmp_ge (tgt := 45) hx hb (by omega) (by omega) d_Chip_grow_7 (by decide) (fun _ => ?_) (fun h => absurd (by omega) h)
      refine lv_iload_n hx hb d_Chip_grow_45 rfl (lv_at hl 2 rfl) ?_
      exact (W.zret (v := grew) (ty := .boolean) hx hb hr (by rcases hg with rfl | rfl <;> rfl) (fun t9 ht hW => ⟨⟨grew, tmp, rfl, hR.symm, by rw [ht]; exact hP, hD⟩, hS.F ht⟩) hS.2.2 d_Chip_grow_46).mono hQ
    | succ r ih =>
      intro k grew tmp ls H locs hk hg hl hP hD hS hR
      have hk1 : k < 6 := by omega
      have hR : p_grow grow bnd = (if (grow k) ≤ 0 then (p_grow_4 grow r (k + 1) (grew ||| (nI 0)) (upd tmp k ((tmp k) + (grow k)))) else (p_grow_4 grow r (k + 1) (grew ||| (nI 1)) (upd tmp k ((tmp k) + (grow k))))) := hR.trans rfl
      refine lv_iload_n hx hb d_Chip_grow_4 rfl (lv_at hl 3 rfl) ?_
      refine lv_bipush (v := nI 6) hx hb d_Chip_grow_5 (by decide) ?_
      refine nn_icmp_ge (tgt := 45) hx hb (by omega) (by omega) d_Chip_grow_7 (by decide) (fun h => absurd h (by omega)) (fun _ => ?_)
      refine lv_aload_n hx hb d_Chip_grow_10 rfl (lv_at hl 1 rfl) ?_
      refine lv_iload_n hx hb d_Chip_grow_11 rfl (lv_at hl 3 rfl) ?_
      refine lv_dup2_11 hx hb d_Chip_grow_12 rfl rfl ?_
      refine nn_iald hx hb hK hP 2 0 rfl rfl (j := k) (by omega) (by decide) d_Chip_grow_13 ?_
      refine lv_aload_n hx hb d_Chip_grow_14 rfl (lv_at hl 0 rfl) ?_
      refine va_get (D := D) (ci := 1) (v := .ref a_grow) (C := R_Chip) (T := F_Chip) (N := 15) hx hb (u_Chip zh hZ) (fun _ h => h) hown hK hP 0 rfl rfl 14 (by decide) (wd zh hZ 94 q_94 rfl) (fun _ h9 => h9) rfl d_Chip_grow_15 ?_
      refine lv_iload_n hx hb d_Chip_grow_18 rfl (lv_at hl 3 rfl) ?_
      refine nn_iald hx hb hK hP 1 0 rfl rfl (j := k) (by omega) (by decide) d_Chip_grow_19 ?_
      refine lv_iadd hx hb d_Chip_grow_20 ?_
      refine nn_iast hx hb hK hP hD hS 2 0 rfl rfl (j := k) (by omega) (by decide) d_Chip_grow_21 (fun H locs hP hD hS => ?_)
      have hP : va_P D classes [(a_chip, .inr (1, [.ref a_lowCap, .ref a_highCap, .ref a_truCap, .ref a_lowE, .ref a_highE, .ref a_truE, .ref a_lim, .ref a_powr, .int trueAir, .int highAir, .int leakBase, .int leakSlope, .int leakSteep, .int leakKnee, .ref a_grow])), (a_grow, .inl (cI, 6, .inl grow)), (a_bnd, .inl (cI, 7, .inl (upd tmp k ((tmp k) + (grow k)))))] H := hP
      have hD : va_D A [(a_chip, .inr (1, [.ref a_lowCap, .ref a_highCap, .ref a_truCap, .ref a_lowE, .ref a_highE, .ref a_truE, .ref a_lim, .ref a_powr, .int trueAir, .int highAir, .int leakBase, .int leakSlope, .int leakSteep, .int leakKnee, .ref a_grow])), (a_grow, .inl (cI, 6, .inl grow)), (a_bnd, .inl (cI, 7, .inl (upd tmp k ((tmp k) + (grow k)))))] := hD
      refine lv_iload_n hx hb d_Chip_grow_22 rfl (lv_at hl 2 rfl) ?_
      refine lv_aload_n hx hb d_Chip_grow_23 rfl (lv_at hl 0 rfl) ?_
      refine va_get (D := D) (ci := 1) (v := .ref a_grow) (C := R_Chip) (T := F_Chip) (N := 15) hx hb (u_Chip zh hZ) (fun _ h => h) hown hK hP 0 rfl rfl 14 (by decide) (wd zh hZ 94 q_94 rfl) (fun _ h9 => h9) rfl d_Chip_grow_24 ?_
      refine lv_iload_n hx hb d_Chip_grow_27 rfl (lv_at hl 3 rfl) ?_
      refine nn_iald hx hb hK hP 1 0 rfl rfl (j := k) (by omega) (by decide) d_Chip_grow_28 ?_
      refine lv_if_le (tgt := 36) hx hb d_Chip_grow_29 (by decide) (fun h1 => ?_) (fun h1 => ?_)
      · have hR := hR.trans (if_pos h1)
        refine lv_iconst (v := nI 0) hx hb d_Chip_grow_36 (by decide) ?_
        refine lv_ior hx hb d_Chip_grow_37 ?_
        refine lv_istore_n (lv' := [(2, .int (grew ||| (nI 0))), (0, .ref a_chip), (1, .ref a_bnd), (3, .int (nI k))]) hx hb d_Chip_grow_38 rfl hl (by decide) rfl (fun ls hl => ?_)
        refine lv_iinc (k := 3) (v := nI (k + 1)) (lv' := [(3, .int (nI (k + 1))), (2, .int (grew ||| (nI 0))), (0, .ref a_chip), (1, .ref a_bnd)]) hx hb d_Chip_grow_39 hl rfl (by rw [show Int32.ofInt 1 = nI 1 from by decide, nI_add]) (by decide) rfl (fun ls hl => ?_)
        refine lv_goto (tgt := 4) hx hb d_Chip_grow_42 (by decide) ?_
        exact ih (k + 1) (grew ||| (nI 0)) (upd tmp k ((tmp k) + (grow k))) _ _ _ (by omega) (by rcases hg with rfl | rfl <;> decide) (lv_sub hl [2, 3, 1, 0] rfl) hP hD hS hR
      · have hR := hR.trans (if_neg h1)
        refine lv_iconst (v := nI 1) hx hb d_Chip_grow_32 (by decide) ?_
        refine lv_goto (tgt := 37) hx hb d_Chip_grow_33 (by decide) ?_
        refine lv_ior hx hb d_Chip_grow_37 ?_
        refine lv_istore_n (lv' := [(2, .int (grew ||| (nI 1))), (0, .ref a_chip), (1, .ref a_bnd), (3, .int (nI k))]) hx hb d_Chip_grow_38 rfl hl (by decide) rfl (fun ls hl => ?_)
        refine lv_iinc (k := 3) (v := nI (k + 1)) (lv' := [(3, .int (nI (k + 1))), (2, .int (grew ||| (nI 1))), (0, .ref a_chip), (1, .ref a_bnd)]) hx hb d_Chip_grow_39 hl rfl (by rw [show Int32.ofInt 1 = nI 1 from by decide, nI_add]) (by decide) rfl (fun ls hl => ?_)
        refine lv_goto (tgt := 4) hx hb d_Chip_grow_42 (by decide) ?_
        exact ih (k + 1) (grew ||| (nI 1)) (upd tmp k ((tmp k) + (grow k))) _ _ _ (by omega) (by rcases hg with rfl | rfl <;> decide) (lv_sub hl [2, 3, 1, 0] rfl) hP hD hS hR
  exact key4 6 0 (nI 0) bnd _ _ _ (by omega) (Or.inl (by decide)) (lv_sub hl [2, 3, 1, 0] rfl) hP hD hS hR
theorem bz_grow_4 (grow : Nat → Int32) : ∀ (r k : Nat) (g : Int32) (b : Nat → Int32), (g = 0 ∨ g = 1) → ((p_grow_4 grow r k g b).1 = 0 ∨ (p_grow_4 grow r k g b).1 = 1) := by
  intro r
  induction r with
  | zero => intro k g b h; exact h
  | succ r ih =>
    intro k g b h
    unfold p_grow_4
    split
    · exact ih _ _ _ (by rcases h with rfl | rfl <;> decide)
    · exact ih _ _ _ (by rcases h with rfl | rfl <;> decide)
theorem bz_grow (grow bnd : Nat → Int32) : (p_grow grow bnd).1 = 0 ∨ (p_grow grow bnd).1 = 1 := bz_grow_4 grow 6 0 _ bnd (Or.inl (by decide))
theorem bz_growE {v : Int32} {u grow bnd : Nat → Int32} (h : (v, u) = p_grow grow bnd) : v = 0 ∨ v = 1 := by
  have e : v = (p_grow grow bnd).1 := congrArg Prod.fst h
  rw [e]; exact bz_grow grow bnd
theorem bz_nar {x : Int32} (h : x = 0 ∨ x = 1) : narrow .boolean (.int x) = .int x := by rcases h with rfl | rfl <;> rfl
def p_worstGrowth (lowCap : Nat → Int32) (highCap : Nat → Int32) (n : Nat) (heat : Int32) : Int32 := if heat ≤ 0 then (-(p_floorDiv (-heat) (highCap n))) else (-(p_floorDiv (-heat) (lowCap n)))
set_option maxHeartbeats 1000000 in
set_option maxRecDepth 100000 in
theorem c_worstGrowth (l : Launch) {z : State} {za : Array Value} (zh : ∀ w ∈ lw_tbl, w.before za z = true) (D : va_G) (cI cZ cJ : ClassId) (a_chip : Nat) (a_lowCap : Nat) (a_highCap : Nat) (a_truCap : Nat) (a_lowE : Nat) (a_highE : Nat) (a_truE : Nat) (a_lim : Nat) (a_powr : Nat) (a_grow : Nat) (sz : Nat) (trueAir : Int32) (highAir : Int32) (leakBase : Int32) (leakSlope : Int32) (leakSteep : Int32) (leakKnee : Int32) (lowCap : Nat → Int32) (highCap : Nat → Int32) (n : Nat) (heat : Int32) (hn : n < 6) (hlo : ∀ j, j < 6 → ¬ lowCap j = 0) (hhi : ∀ j, j < 6 → ¬ highCap j = 0) :
    Met l y_Chip_worstGrowth [Cond.code y_Chip_worstGrowth prog_2_method_15_code 4 (some .int)] { frames := 1, cells := 0, slots := 0, locals := 22 } (va_Pc [.ref a_chip, .int (nI n), .int heat] (PreW z D classes cI cZ cJ sz [(a_chip, .inr (1, [.ref a_lowCap, .ref a_highCap, .ref a_truCap, .ref a_lowE, .ref a_highE, .ref a_truE, .ref a_lim, .ref a_powr, .int trueAir, .int highAir, .int leakBase, .int leakSlope, .int leakSteep, .int leakKnee, .ref a_grow])), (a_lowCap, .inl (cI, 6, .inl lowCap)), (a_highCap, .inl (cI, 6, .inl highCap))])) (va_Qi (fun (r : Int32) (_ : Unit) => r = p_worstGrowth lowCap highCap n heat) (fun u => PostW D classes (va_A [(a_chip, .inr (1, [.ref a_lowCap, .ref a_highCap, .ref a_truCap, .ref a_lowE, .ref a_highE, .ref a_truE, .ref a_lim, .ref a_powr, .int trueAir, .int highAir, .int leakBase, .int leakSlope, .int leakSteep, .int leakKnee, .ref a_grow])), (a_lowCap, .inl (cI, 6, .inl lowCap)), (a_highCap, .inl (cI, 6, .inl highCap))] sz) [(a_chip, .inr (1, [.ref a_lowCap, .ref a_highCap, .ref a_truCap, .ref a_lowE, .ref a_highE, .ref a_truE, .ref a_lim, .ref a_powr, .int trueAir, .int highAir, .int leakBase, .int leakSlope, .int leakSteep, .int leakKnee, .ref a_grow])), (a_lowCap, .inl (cI, 6, .inl lowCap)), (a_highCap, .inl (cI, 6, .inl highCap))]) (va_A [(a_chip, .inr (1, [.ref a_lowCap, .ref a_highCap, .ref a_truCap, .ref a_lowE, .ref a_highE, .ref a_truE, .ref a_lim, .ref a_powr, .int trueAir, .int highAir, .int leakBase, .int leakSlope, .int leakSteep, .int leakKnee, .ref a_grow])), (a_lowCap, .inl (cI, 6, .inl lowCap)), (a_highCap, .inl (cI, 6, .inl highCap))] sz)) 0 0 (va_A [(a_chip, .inr (1, [.ref a_lowCap, .ref a_highCap, .ref a_truCap, .ref a_lowE, .ref a_highE, .ref a_truE, .ref a_lim, .ref a_powr, .int trueAir, .int highAir, .int leakBase, .int leakSlope, .int leakSteep, .int leakKnee, .ref a_grow])), (a_lowCap, .inl (cI, 6, .inl lowCap)), (a_highCap, .inl (cI, 6, .inl highCap))] sz) := by
  refine Met.ofQ (cc := prog_2_method_15_code) (maxL := 4) (ret := (some .int)) (by decide +kernel) rfl ?_
  intro p e s m args below meth c s₁ Q B hml hv hQ
  obtain ⟨rfl, rfl, hZ, hP, hK, hD0⟩ := hv
  have hx := B.exec
  have hb := B.bytes
  have hr := B.returns
  have hown : s.vm.findClass R_Chip = some m.cls := findClass_of_methodNamed B.named
  have hlocks := B.notSynchronized
  clear B
  have hD := hD0.self (sz := s.heap.size)
  generalize hAe : va_A [(a_chip, .inr (1, [.ref a_lowCap, .ref a_highCap, .ref a_truCap, .ref a_lowE, .ref a_highE, .ref a_truE, .ref a_lim, .ref a_powr, .int trueAir, .int highAir, .int leakBase, .int leakSlope, .int leakSteep, .int leakKnee, .ref a_grow])), (a_lowCap, .inl (cI, 6, .inl lowCap)), (a_highCap, .inl (cI, 6, .inl highCap))] s.heap.size = A at hD hQ
  have hA : ∀ q : Nat, s.heap.size ≤ q → A q := fun q h => by rw [← hAe]; exact Or.inr h
  clear hAe hD0
  have hS : va_S A s.heap s.heap [] := va_S.rf
  have hl := lv_entry ([.ref a_chip, .int (nI n), .int heat]) (n := 4) (Nat.le_of_ble_eq_true rfl)
  rw [lg_entry_eq]
  generalize (lg_sl ([.ref a_chip, .int (nI n), .int heat]) ++ List.replicate (4 - (lg_sl ([.ref a_chip, .int (nI n), .int heat])).length) Slot.unset).toArray = ls at hl ⊢
  have hl : lv_has ls 4 [(0, .ref a_chip), (1, .int (nI n)), (2, .int heat)] := hl
  have hR : p_worstGrowth lowCap highCap n heat = (if heat ≤ 0 then (-(p_floorDiv (-heat) (highCap n))) else (-(p_floorDiv (-heat) (lowCap n)))) := rfl
  refine lv_iload_n hx hb d_Chip_worstGrowth_0 rfl (lv_at hl 2 rfl) ?_
  refine lv_if_le (tgt := 13) hx hb d_Chip_worstGrowth_1 (by decide) (fun h1 => ?_) (fun h1 => ?_)
  · have hR := hR.trans (if_pos h1)
    refine lv_aload_n hx hb d_Chip_worstGrowth_13 rfl (lv_at hl 0 rfl) ?_
    refine va_get (D := D) (ci := 1) (v := .ref a_highCap) (C := R_Chip) (T := F_Chip) (N := 15) hx hb (u_Chip zh hZ) (fun _ h => h) hown hK hP 0 rfl rfl 1 (by decide) (wd zh hZ 70 q_70 rfl) (fun _ h9 => h9) rfl d_Chip_worstGrowth_14 ?_
    refine lv_iload_n hx hb d_Chip_worstGrowth_17 rfl (lv_at hl 1 rfl) ?_
    refine nn_iald hx hb hK hP 2 0 rfl rfl (j := n) (by omega) (by decide) d_Chip_worstGrowth_18 ?_
    refine lv_istore_n (lv' := [(3, .int (highCap n)), (0, .ref a_chip), (1, .int (nI n)), (2, .int heat)]) hx hb d_Chip_worstGrowth_19 rfl hl (by decide) rfl (fun ls hl => ?_)
    refine lv_iload_n hx hb d_Chip_worstGrowth_20 rfl (lv_at hl 3 rfl) ?_
    refine lv_ineg hx hb d_Chip_worstGrowth_21 ?_
    refine lv_iload_n hx hb d_Chip_worstGrowth_22 rfl (lv_at hl 0 rfl) ?_
    refine ke_i (S := Unit) (fun uu => [(a_chip, .inr (1, [.ref a_lowCap, .ref a_highCap, .ref a_truCap, .ref a_lowE, .ref a_highE, .ref a_truE, .ref a_lim, .ref a_powr, .int trueAir, .int highAir, .int leakBase, .int leakSlope, .int leakSteep, .int leakKnee, .ref a_grow])), (a_lowCap, .inl (cI, 6, .inl lowCap)), (a_highCap, .inl (cI, 6, .inl highCap))]) (kr_S (As := [.int (-heat), .int (highCap n)]) (rest := []) hx hb hml hown hZ (c_floorDiv l zh D cI cZ cJ _ (-heat) (highCap n) (hhi n hn)) (s_Chip_92_Math_floorDiv zh hZ) (wd zh hZ 465 q_465 rfl) ⟨rfl, rfl, by decide, by decide⟩ (hP.sub [] rfl) hK (hD.sub [] (by decide) rfl) rfl hl.1 rfl (Nat.le_of_ble_eq_true rfl) d_Chip_worstGrowth_23 (Nat.zero_le _) (Nat.zero_le _)) hP hD hS hA 3 [] [0, 1, 2] rfl (fun _ => rfl) (fun _ => rfl) (by decide) (by decide) (fun _ => rfl) (fun _ => rfl) rfl (fun rr uu H locs hu hP hD hS => ?_)
    subst hu
    have hP : va_P D classes [(a_chip, .inr (1, [.ref a_lowCap, .ref a_highCap, .ref a_truCap, .ref a_lowE, .ref a_highE, .ref a_truE, .ref a_lim, .ref a_powr, .int trueAir, .int highAir, .int leakBase, .int leakSlope, .int leakSteep, .int leakKnee, .ref a_grow])), (a_lowCap, .inl (cI, 6, .inl lowCap)), (a_highCap, .inl (cI, 6, .inl highCap))] H := hP
    have hD : va_D A [(a_chip, .inr (1, [.ref a_lowCap, .ref a_highCap, .ref a_truCap, .ref a_lowE, .ref a_highE, .ref a_truE, .ref a_lim, .ref a_powr, .int trueAir, .int highAir, .int leakBase, .int leakSlope, .int leakSteep, .int leakKnee, .ref a_grow])), (a_lowCap, .inl (cI, 6, .inl lowCap)), (a_highCap, .inl (cI, 6, .inl highCap))] := hD
    refine lv_ineg hx hb d_Chip_worstGrowth_26 ?_
    exact (W.iret (v := (-(p_floorDiv (-heat) (highCap n)))) hx hb hr (fun t9 ht hW => ⟨⟨(-(p_floorDiv (-heat) (highCap n))), (), rfl, hR.symm, by rw [ht]; exact hP, hD⟩, hS.F ht⟩) hS.2.2 d_Chip_worstGrowth_27).mono hQ
  · have hR := hR.trans (if_neg h1)
    refine lv_aload_n hx hb d_Chip_worstGrowth_4 rfl (lv_at hl 0 rfl) ?_
    refine va_get (D := D) (ci := 1) (v := .ref a_lowCap) (C := R_Chip) (T := F_Chip) (N := 15) hx hb (u_Chip zh hZ) (fun _ h => h) hown hK hP 0 rfl rfl 0 (by decide) (wd zh hZ 68 q_68 rfl) (fun _ h9 => h9) rfl d_Chip_worstGrowth_5 ?_
    refine lv_iload_n hx hb d_Chip_worstGrowth_8 rfl (lv_at hl 1 rfl) ?_
    refine nn_iald hx hb hK hP 1 0 rfl rfl (j := n) (by omega) (by decide) d_Chip_worstGrowth_9 ?_
    refine lv_goto (tgt := 19) hx hb d_Chip_worstGrowth_10 (by decide) ?_
    refine lv_istore_n (lv' := [(3, .int (lowCap n)), (0, .ref a_chip), (1, .int (nI n)), (2, .int heat)]) hx hb d_Chip_worstGrowth_19 rfl hl (by decide) rfl (fun ls hl => ?_)
    refine lv_iload_n hx hb d_Chip_worstGrowth_20 rfl (lv_at hl 3 rfl) ?_
    refine lv_ineg hx hb d_Chip_worstGrowth_21 ?_
    refine lv_iload_n hx hb d_Chip_worstGrowth_22 rfl (lv_at hl 0 rfl) ?_
    refine ke_i (S := Unit) (fun uu => [(a_chip, .inr (1, [.ref a_lowCap, .ref a_highCap, .ref a_truCap, .ref a_lowE, .ref a_highE, .ref a_truE, .ref a_lim, .ref a_powr, .int trueAir, .int highAir, .int leakBase, .int leakSlope, .int leakSteep, .int leakKnee, .ref a_grow])), (a_lowCap, .inl (cI, 6, .inl lowCap)), (a_highCap, .inl (cI, 6, .inl highCap))]) (kr_S (As := [.int (-heat), .int (lowCap n)]) (rest := []) hx hb hml hown hZ (c_floorDiv l zh D cI cZ cJ _ (-heat) (lowCap n) (hlo n hn)) (s_Chip_92_Math_floorDiv zh hZ) (wd zh hZ 465 q_465 rfl) ⟨rfl, rfl, by decide, by decide⟩ (hP.sub [] rfl) hK (hD.sub [] (by decide) rfl) rfl hl.1 rfl (Nat.le_of_ble_eq_true rfl) d_Chip_worstGrowth_23 (Nat.zero_le _) (Nat.zero_le _)) hP hD hS hA 3 [] [0, 1, 2] rfl (fun _ => rfl) (fun _ => rfl) (by decide) (by decide) (fun _ => rfl) (fun _ => rfl) rfl (fun rr uu H locs hu hP hD hS => ?_)
    subst hu
    have hP : va_P D classes [(a_chip, .inr (1, [.ref a_lowCap, .ref a_highCap, .ref a_truCap, .ref a_lowE, .ref a_highE, .ref a_truE, .ref a_lim, .ref a_powr, .int trueAir, .int highAir, .int leakBase, .int leakSlope, .int leakSteep, .int leakKnee, .ref a_grow])), (a_lowCap, .inl (cI, 6, .inl lowCap)), (a_highCap, .inl (cI, 6, .inl highCap))] H := hP
    have hD : va_D A [(a_chip, .inr (1, [.ref a_lowCap, .ref a_highCap, .ref a_truCap, .ref a_lowE, .ref a_highE, .ref a_truE, .ref a_lim, .ref a_powr, .int trueAir, .int highAir, .int leakBase, .int leakSlope, .int leakSteep, .int leakKnee, .ref a_grow])), (a_lowCap, .inl (cI, 6, .inl lowCap)), (a_highCap, .inl (cI, 6, .inl highCap))] := hD
    refine lv_ineg hx hb d_Chip_worstGrowth_26 ?_
    exact (W.iret (v := (-(p_floorDiv (-heat) (lowCap n)))) hx hb hr (fun t9 ht hW => ⟨⟨(-(p_floorDiv (-heat) (lowCap n))), (), rfl, hR.symm, by rw [ht]; exact hP, hD⟩, hS.F ht⟩) hS.2.2 d_Chip_worstGrowth_27).mono hQ
def p_worstInflow_12 (lowE : Nat → Int32) (highE : Nat → Int32) (bnd : Nat → Int32) (n : Nat) : Nat → Nat → Int32 → Int32
  | 0, k, inflow => inflow
  | r + 1, k, inflow => if ((bnd k) - (bnd n)) ≤ 0 then (p_worstInflow_12 lowE highE bnd n r (k + 1) (inflow + ((lowE ((n * 7 + 0) + k)) * ((bnd k) - (bnd n))))) else (p_worstInflow_12 lowE highE bnd n r (k + 1) (inflow + ((highE ((n * 7 + 0) + k)) * ((bnd k) - (bnd n)))))
def p_worstInflow (lowE : Nat → Int32) (highE : Nat → Int32) (bnd : Nat → Int32) (n : Nat) : Int32 := p_worstInflow_12 lowE highE bnd n 7 0 (nI 0)
set_option maxHeartbeats 1000000 in
set_option maxRecDepth 100000 in
theorem c_worstInflow (l : Launch) {z : State} {za : Array Value} (zh : ∀ w ∈ lw_tbl, w.before za z = true) (D : va_G) (cI cZ cJ : ClassId) (a_chip : Nat) (a_lowCap : Nat) (a_highCap : Nat) (a_truCap : Nat) (a_lowE : Nat) (a_highE : Nat) (a_truE : Nat) (a_lim : Nat) (a_powr : Nat) (a_grow : Nat) (a_bnd : Nat) (sz : Nat) (trueAir : Int32) (highAir : Int32) (leakBase : Int32) (leakSlope : Int32) (leakSteep : Int32) (leakKnee : Int32) (lowE : Nat → Int32) (highE : Nat → Int32) (bnd : Nat → Int32) (n : Nat) (hn : n < 6) :
    Met l y_Chip_worstInflow [Cond.code y_Chip_worstInflow prog_2_method_14_code 8 (some .int)] { frames := 1, cells := 0, slots := 0, locals := 21 } (va_Pc [.ref a_chip, .int (nI n), .ref a_bnd] (PreW z D classes cI cZ cJ sz [(a_chip, .inr (1, [.ref a_lowCap, .ref a_highCap, .ref a_truCap, .ref a_lowE, .ref a_highE, .ref a_truE, .ref a_lim, .ref a_powr, .int trueAir, .int highAir, .int leakBase, .int leakSlope, .int leakSteep, .int leakKnee, .ref a_grow])), (a_lowE, .inl (cI, 49, .inl lowE)), (a_highE, .inl (cI, 49, .inl highE)), (a_bnd, .inl (cI, 7, .inl bnd))])) (va_Qi (fun (r : Int32) (_ : Unit) => r = p_worstInflow lowE highE bnd n) (fun u => PostW D classes (va_A [(a_chip, .inr (1, [.ref a_lowCap, .ref a_highCap, .ref a_truCap, .ref a_lowE, .ref a_highE, .ref a_truE, .ref a_lim, .ref a_powr, .int trueAir, .int highAir, .int leakBase, .int leakSlope, .int leakSteep, .int leakKnee, .ref a_grow])), (a_lowE, .inl (cI, 49, .inl lowE)), (a_highE, .inl (cI, 49, .inl highE)), (a_bnd, .inl (cI, 7, .inl bnd))] sz) [(a_chip, .inr (1, [.ref a_lowCap, .ref a_highCap, .ref a_truCap, .ref a_lowE, .ref a_highE, .ref a_truE, .ref a_lim, .ref a_powr, .int trueAir, .int highAir, .int leakBase, .int leakSlope, .int leakSteep, .int leakKnee, .ref a_grow])), (a_lowE, .inl (cI, 49, .inl lowE)), (a_highE, .inl (cI, 49, .inl highE)), (a_bnd, .inl (cI, 7, .inl bnd))]) (va_A [(a_chip, .inr (1, [.ref a_lowCap, .ref a_highCap, .ref a_truCap, .ref a_lowE, .ref a_highE, .ref a_truE, .ref a_lim, .ref a_powr, .int trueAir, .int highAir, .int leakBase, .int leakSlope, .int leakSteep, .int leakKnee, .ref a_grow])), (a_lowE, .inl (cI, 49, .inl lowE)), (a_highE, .inl (cI, 49, .inl highE)), (a_bnd, .inl (cI, 7, .inl bnd))] sz)) 0 0 (va_A [(a_chip, .inr (1, [.ref a_lowCap, .ref a_highCap, .ref a_truCap, .ref a_lowE, .ref a_highE, .ref a_truE, .ref a_lim, .ref a_powr, .int trueAir, .int highAir, .int leakBase, .int leakSlope, .int leakSteep, .int leakKnee, .ref a_grow])), (a_lowE, .inl (cI, 49, .inl lowE)), (a_highE, .inl (cI, 49, .inl highE)), (a_bnd, .inl (cI, 7, .inl bnd))] sz) := by
  refine Met.ofQ (cc := prog_2_method_14_code) (maxL := 8) (ret := (some .int)) (by decide +kernel) rfl ?_
  intro p e s m args below meth c s₁ Q B hml hv hQ
  obtain ⟨rfl, rfl, hZ, hP, hK, hD0⟩ := hv
  have hx := B.exec
  have hb := B.bytes
  have hr := B.returns
  have hown : s.vm.findClass R_Chip = some m.cls := findClass_of_methodNamed B.named
  have hlocks := B.notSynchronized
  clear B
  have hD := hD0.self (sz := s.heap.size)
  generalize hAe : va_A [(a_chip, .inr (1, [.ref a_lowCap, .ref a_highCap, .ref a_truCap, .ref a_lowE, .ref a_highE, .ref a_truE, .ref a_lim, .ref a_powr, .int trueAir, .int highAir, .int leakBase, .int leakSlope, .int leakSteep, .int leakKnee, .ref a_grow])), (a_lowE, .inl (cI, 49, .inl lowE)), (a_highE, .inl (cI, 49, .inl highE)), (a_bnd, .inl (cI, 7, .inl bnd))] s.heap.size = A at hD hQ
  have hA : ∀ q : Nat, s.heap.size ≤ q → A q := fun q h => by rw [← hAe]; exact Or.inr h
  clear hAe hD0
  have hS : va_S A s.heap s.heap [] := va_S.rf
  have hl := lv_entry ([.ref a_chip, .int (nI n), .ref a_bnd]) (n := 8) (Nat.le_of_ble_eq_true rfl)
  rw [lg_entry_eq]
  generalize (lg_sl ([.ref a_chip, .int (nI n), .ref a_bnd]) ++ List.replicate (8 - (lg_sl ([.ref a_chip, .int (nI n), .ref a_bnd])).length) Slot.unset).toArray = ls at hl ⊢
  have hl : lv_has ls 8 [(0, .ref a_chip), (1, .int (nI n)), (2, .ref a_bnd)] := hl
  have hR : p_worstInflow lowE highE bnd n = (p_worstInflow_12 lowE highE bnd n 7 0 (nI 0)) := rfl
  refine lv_iconst (v := nI 0) hx hb d_Chip_worstInflow_0 (by decide) ?_
  refine lv_istore_n (lv' := [(3, .int (nI 0)), (0, .ref a_chip), (1, .int (nI n)), (2, .ref a_bnd)]) hx hb d_Chip_worstInflow_1 rfl hl (by decide) rfl (fun ls hl => ?_)
  refine lv_iload_n hx hb d_Chip_worstInflow_2 rfl (lv_at hl 2 rfl) ?_
  refine lv_iconst (v := nI 0) hx hb d_Chip_worstInflow_3 (by decide) ?_
  refine ke_i (S := Unit) (fun uu => [(a_chip, .inr (1, [.ref a_lowCap, .ref a_highCap, .ref a_truCap, .ref a_lowE, .ref a_highE, .ref a_truE, .ref a_lim, .ref a_powr, .int trueAir, .int highAir, .int leakBase, .int leakSlope, .int leakSteep, .int leakKnee, .ref a_grow])), (a_lowE, .inl (cI, 49, .inl lowE)), (a_highE, .inl (cI, 49, .inl highE)), (a_bnd, .inl (cI, 7, .inl bnd))]) (kr_SN (As := [.int (nI n), .int (nI 0)]) (rest := []) hx hb hml hown hZ (c_between l zh D cI cZ cJ _ n 0) (s_Chip_59_Gov_between zh hZ) (wd zh hZ 358 q_358 rfl) ⟨rfl, rfl, by decide, by decide⟩ (hP.sub [] rfl) hK (hD.sub [] (by decide) rfl) rfl hl.1 rfl (Nat.le_of_ble_eq_true rfl) d_Chip_worstInflow_4 (Nat.zero_le _) (Nat.zero_le _)) hP hD hS hA 4 [] [0, 1, 2, 3] rfl (fun _ => rfl) (fun _ => rfl) (by decide) (by decide) (fun _ => rfl) (fun _ => rfl) rfl (fun rr uu H locs hu hP hD hS => ?_)
  subst hu
  have hP : va_P D classes [(a_chip, .inr (1, [.ref a_lowCap, .ref a_highCap, .ref a_truCap, .ref a_lowE, .ref a_highE, .ref a_truE, .ref a_lim, .ref a_powr, .int trueAir, .int highAir, .int leakBase, .int leakSlope, .int leakSteep, .int leakKnee, .ref a_grow])), (a_lowE, .inl (cI, 49, .inl lowE)), (a_highE, .inl (cI, 49, .inl highE)), (a_bnd, .inl (cI, 7, .inl bnd))] H := hP
  have hD : va_D A [(a_chip, .inr (1, [.ref a_lowCap, .ref a_highCap, .ref a_truCap, .ref a_lowE, .ref a_highE, .ref a_truE, .ref a_lim, .ref a_powr, .int trueAir, .int highAir, .int leakBase, .int leakSlope, .int leakSteep, .int leakKnee, .ref a_grow])), (a_lowE, .inl (cI, 49, .inl lowE)), (a_highE, .inl (cI, 49, .inl highE)), (a_bnd, .inl (cI, 7, .inl bnd))] := hD
  refine nn_eq (rfl) ?_
  refine lv_istore (lv' := [(4, .int (nI (n * 7 + 0))), (3, .int (nI 0)), (0, .ref a_chip), (1, .int (nI n)), (2, .ref a_bnd)]) hx hb d_Chip_worstInflow_7 hl (by decide) rfl (fun ls hl => ?_)
  refine lv_iconst (v := nI 0) hx hb d_Chip_worstInflow_9 (by decide) ?_
  refine lv_istore (lv' := [(5, .int (nI 0)), (4, .int (nI (n * 7 + 0))), (3, .int (nI 0)), (0, .ref a_chip), (1, .int (nI n)), (2, .ref a_bnd)]) hx hb d_Chip_worstInflow_10 hl (by decide) rfl (fun ls hl => ?_)
  have key12 : ∀ (r : Nat) (k : Nat) (inflow : Int32) (ls : Array Slot) (H : Heap) (locs : List Loc), k + r = 7 → lv_has ls 8 [(0, .ref a_chip), (1, .int (nI n)), (2, .ref a_bnd), (3, .int inflow), (4, .int (nI (n * 7 + 0))), (5, .int (nI k))] → va_P D classes [(a_chip, .inr (1, [.ref a_lowCap, .ref a_highCap, .ref a_truCap, .ref a_lowE, .ref a_highE, .ref a_truE, .ref a_lim, .ref a_powr, .int trueAir, .int highAir, .int leakBase, .int leakSlope, .int leakSteep, .int leakKnee, .ref a_grow])), (a_lowE, .inl (cI, 49, .inl lowE)), (a_highE, .inl (cI, 49, .inl highE)), (a_bnd, .inl (cI, 7, .inl bnd))] H → va_D A [(a_chip, .inr (1, [.ref a_lowCap, .ref a_highCap, .ref a_truCap, .ref a_lowE, .ref a_highE, .ref a_truE, .ref a_lim, .ref a_powr, .int trueAir, .int highAir, .int leakBase, .int leakSlope, .int leakSteep, .int leakKnee, .ref a_grow])), (a_lowE, .inl (cI, 49, .inl lowE)), (a_highE, .inl (cI, 49, .inl highE)), (a_bnd, .inl (cI, 7, .inl bnd))] → va_S A s.heap H locs → p_worstInflow lowE highE bnd n = p_worstInflow_12 lowE highE bnd n r k inflow → W p l e { frames := 1, cells := 0, slots := 0, locals := 21 } s m ([.ref a_chip, .int (nI n), .ref a_bnd]).toArray below meth c H locs 0 0 Q (F0 m 12 ls []) := by
    intro r
    induction r with
    | zero =>
      intro k inflow ls H locs hk hl hP hD hS hR
      obtain rfl : k = 7 := by omega
      have hR : p_worstInflow lowE highE bnd n = (inflow) := hR.trans rfl
      refine lv_iload hx hb d_Chip_worstInflow_12 (lv_at hl 5 rfl) ?_
      refine lv_bipush (v := nI 7) hx hb d_Chip_worstInflow_14 (by decide) ?_
      refine nn_icmp_ge (tgt := 67) hx hb (by omega) (by omega) d_Chip_worstInflow_16 (by decide) (fun _ => ?_) (fun h => absurd (by omega) h)
      refine lv_iload_n hx hb d_Chip_worstInflow_67 rfl (lv_at hl 3 rfl) ?_
      exact (W.iret (v := inflow) hx hb hr (fun t9 ht hW => ⟨⟨inflow, (), rfl, hR.symm, by rw [ht]; exact hP, hD⟩, hS.F ht⟩) hS.2.2 d_Chip_worstInflow_68).mono hQ
    | succ r ih =>
      intro k inflow ls H locs hk hl hP hD hS hR
      have hk1 : k < 7 := by omega
      have hR : p_worstInflow lowE highE bnd n = (if ((bnd k) - (bnd n)) ≤ 0 then (p_worstInflow_12 lowE highE bnd n r (k + 1) (inflow + ((lowE ((n * 7 + 0) + k)) * ((bnd k) - (bnd n))))) else (p_worstInflow_12 lowE highE bnd n r (k + 1) (inflow + ((highE ((n * 7 + 0) + k)) * ((bnd k) - (bnd n)))))) := hR.trans rfl
      refine lv_iload hx hb d_Chip_worstInflow_12 (lv_at hl 5 rfl) ?_
      refine lv_bipush (v := nI 7) hx hb d_Chip_worstInflow_14 (by decide) ?_
      refine nn_icmp_ge (tgt := 67) hx hb (by omega) (by omega) d_Chip_worstInflow_16 (by decide) (fun h => absurd h (by omega)) (fun _ => ?_)
      refine lv_aload_n hx hb d_Chip_worstInflow_19 rfl (lv_at hl 2 rfl) ?_
      refine lv_iload hx hb d_Chip_worstInflow_20 (lv_at hl 5 rfl) ?_
      refine nn_iald hx hb hK hP 3 0 rfl rfl (j := k) (by omega) (by decide) d_Chip_worstInflow_22 ?_
      refine lv_aload_n hx hb d_Chip_worstInflow_23 rfl (lv_at hl 2 rfl) ?_
      refine lv_iload_n hx hb d_Chip_worstInflow_24 rfl (lv_at hl 1 rfl) ?_
      refine nn_iald hx hb hK hP 3 0 rfl rfl (j := n) (by omega) (by decide) d_Chip_worstInflow_25 ?_
      refine lv_isub hx hb d_Chip_worstInflow_26 ?_
      refine lv_istore (lv' := [(6, .int ((bnd k) - (bnd n))), (0, .ref a_chip), (1, .int (nI n)), (2, .ref a_bnd), (3, .int inflow), (4, .int (nI (n * 7 + 0))), (5, .int (nI k))]) hx hb d_Chip_worstInflow_27 hl (by decide) rfl (fun ls hl => ?_)
      refine lv_iload hx hb d_Chip_worstInflow_29 (lv_at hl 0 rfl) ?_
      refine lv_if_le (tgt := 41) hx hb d_Chip_worstInflow_31 (by decide) (fun h1 => ?_) (fun h1 => ?_)
      · have hR := hR.trans (if_pos h1)
        refine lv_aload_n hx hb d_Chip_worstInflow_41 rfl (lv_at hl 1 rfl) ?_
        refine va_get (D := D) (ci := 1) (v := .ref a_lowE) (C := R_Chip) (T := F_Chip) (N := 15) hx hb (u_Chip zh hZ) (fun _ h => h) hown hK hP 0 rfl rfl 3 (by decide) (wd zh hZ 74 q_74 rfl) (fun _ h9 => h9) rfl d_Chip_worstInflow_42 ?_
        refine lv_astore (lv' := [(7, .ref a_lowE), (6, .int ((bnd k) - (bnd n))), (0, .ref a_chip), (1, .int (nI n)), (2, .ref a_bnd), (3, .int inflow), (4, .int (nI (n * 7 + 0))), (5, .int (nI k))]) hx hb d_Chip_worstInflow_45 hl (by decide) rfl (fun ls hl => ?_)
        refine lv_iload_n hx hb d_Chip_worstInflow_47 rfl (lv_at hl 5 rfl) ?_
        refine lv_aload hx hb d_Chip_worstInflow_48 (lv_at hl 0 rfl) ?_
        refine lv_iload hx hb d_Chip_worstInflow_50 (lv_at hl 6 rfl) ?_
        refine lv_iload hx hb d_Chip_worstInflow_52 (lv_at hl 7 rfl) ?_
        refine nn_iadd hx hb d_Chip_worstInflow_54 ?_
        refine nn_iald hx hb hK hP 1 0 rfl rfl (j := (n * 7 + 0) + k) (by omega) (by decide) d_Chip_worstInflow_55 ?_
        refine lv_iload hx hb d_Chip_worstInflow_56 (lv_at hl 1 rfl) ?_
        refine lv_imul hx hb d_Chip_worstInflow_58 ?_
        refine lv_iadd hx hb d_Chip_worstInflow_59 ?_
        refine lv_istore_n (lv' := [(3, .int (inflow + ((lowE ((n * 7 + 0) + k)) * ((bnd k) - (bnd n))))), (7, .ref a_lowE), (6, .int ((bnd k) - (bnd n))), (0, .ref a_chip), (1, .int (nI n)), (2, .ref a_bnd), (4, .int (nI (n * 7 + 0))), (5, .int (nI k))]) hx hb d_Chip_worstInflow_60 rfl hl (by decide) rfl (fun ls hl => ?_)
        refine lv_iinc (k := 7) (v := nI (k + 1)) (lv' := [(5, .int (nI (k + 1))), (3, .int (inflow + ((lowE ((n * 7 + 0) + k)) * ((bnd k) - (bnd n))))), (7, .ref a_lowE), (6, .int ((bnd k) - (bnd n))), (0, .ref a_chip), (1, .int (nI n)), (2, .ref a_bnd), (4, .int (nI (n * 7 + 0)))]) hx hb d_Chip_worstInflow_61 hl rfl (by rw [show Int32.ofInt 1 = nI 1 from by decide, nI_add]) (by decide) rfl (fun ls hl => ?_)
        refine lv_goto (tgt := 12) hx hb d_Chip_worstInflow_64 (by decide) ?_
        exact ih (k + 1) (inflow + ((lowE ((n * 7 + 0) + k)) * ((bnd k) - (bnd n)))) _ _ _ (by omega) (lv_sub hl [4, 5, 6, 1, 7, 0] rfl) hP hD hS hR
      · have hR := hR.trans (if_neg h1)
        refine lv_aload_n hx hb d_Chip_worstInflow_34 rfl (lv_at hl 1 rfl) ?_
        refine va_get (D := D) (ci := 1) (v := .ref a_highE) (C := R_Chip) (T := F_Chip) (N := 15) hx hb (u_Chip zh hZ) (fun _ h => h) hown hK hP 0 rfl rfl 4 (by decide) (wd zh hZ 76 q_76 rfl) (fun _ h9 => h9) rfl d_Chip_worstInflow_35 ?_
        refine lv_goto (tgt := 45) hx hb d_Chip_worstInflow_38 (by decide) ?_
        refine lv_astore (lv' := [(7, .ref a_highE), (6, .int ((bnd k) - (bnd n))), (0, .ref a_chip), (1, .int (nI n)), (2, .ref a_bnd), (3, .int inflow), (4, .int (nI (n * 7 + 0))), (5, .int (nI k))]) hx hb d_Chip_worstInflow_45 hl (by decide) rfl (fun ls hl => ?_)
        refine lv_iload_n hx hb d_Chip_worstInflow_47 rfl (lv_at hl 5 rfl) ?_
        refine lv_aload hx hb d_Chip_worstInflow_48 (lv_at hl 0 rfl) ?_
        refine lv_iload hx hb d_Chip_worstInflow_50 (lv_at hl 6 rfl) ?_
        refine lv_iload hx hb d_Chip_worstInflow_52 (lv_at hl 7 rfl) ?_
        refine nn_iadd hx hb d_Chip_worstInflow_54 ?_
        refine nn_iald hx hb hK hP 2 0 rfl rfl (j := (n * 7 + 0) + k) (by omega) (by decide) d_Chip_worstInflow_55 ?_
        refine lv_iload hx hb d_Chip_worstInflow_56 (lv_at hl 1 rfl) ?_
        refine lv_imul hx hb d_Chip_worstInflow_58 ?_
        refine lv_iadd hx hb d_Chip_worstInflow_59 ?_
        refine lv_istore_n (lv' := [(3, .int (inflow + ((highE ((n * 7 + 0) + k)) * ((bnd k) - (bnd n))))), (7, .ref a_highE), (6, .int ((bnd k) - (bnd n))), (0, .ref a_chip), (1, .int (nI n)), (2, .ref a_bnd), (4, .int (nI (n * 7 + 0))), (5, .int (nI k))]) hx hb d_Chip_worstInflow_60 rfl hl (by decide) rfl (fun ls hl => ?_)
        refine lv_iinc (k := 7) (v := nI (k + 1)) (lv' := [(5, .int (nI (k + 1))), (3, .int (inflow + ((highE ((n * 7 + 0) + k)) * ((bnd k) - (bnd n))))), (7, .ref a_highE), (6, .int ((bnd k) - (bnd n))), (0, .ref a_chip), (1, .int (nI n)), (2, .ref a_bnd), (4, .int (nI (n * 7 + 0)))]) hx hb d_Chip_worstInflow_61 hl rfl (by rw [show Int32.ofInt 1 = nI 1 from by decide, nI_add]) (by decide) rfl (fun ls hl => ?_)
        refine lv_goto (tgt := 12) hx hb d_Chip_worstInflow_64 (by decide) ?_
        exact ih (k + 1) (inflow + ((highE ((n * 7 + 0) + k)) * ((bnd k) - (bnd n)))) _ _ _ (by omega) (lv_sub hl [4, 5, 6, 1, 7, 0] rfl) hP hD hS hR
  exact key12 7 0 (nI 0) _ _ _ (by omega) (lv_sub hl [3, 4, 5, 2, 1, 0] rfl) hP hD hS hR
