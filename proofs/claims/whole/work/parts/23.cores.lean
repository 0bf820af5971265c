def p_isBusy_2 (steps : Nat → Int32) : Nat → Nat → Int32
  | 0, k => nI 0
  | r + 1, k => if (steps k) ≤ 0 then (p_isBusy_2 steps r (k + 1)) else (nI 1)
def p_isBusy (steps : Nat → Int32) : Int32 := p_isBusy_2 steps 4 0
set_option maxHeartbeats 1000000 in
set_option maxRecDepth 100000 in
theorem c_isBusy (l : Launch) {z : State} {za : Array Value} (zh : ∀ w ∈ lw_tbl, w.before za z = true) (D : va_G) (cI cZ cJ : ClassId) (a_cores : Nat) (a_steps : Nat) (a_wishes : Nat) (a_ranks : Nat) (a_waits : Nat) (a_told : Nat) (a_grants : Nat) (sz : Nat) (ticksHeld : Int32) (steps : Nat → Int32) :
    Met l y_Cores_isBusy [Cond.code y_Cores_isBusy prog_3_method_4_code 2 (some .boolean)] { frames := 0, cells := 0, slots := 0, locals := 0 } (va_Pc [.ref a_cores] (PreW z D classes cI cZ cJ sz [(a_cores, .inr (4, [.ref a_steps, .ref a_wishes, .ref a_ranks, .ref a_waits, .ref a_told, .ref a_grants, .int ticksHeld])), (a_steps, .inl (cI, 4, .inl steps))])) (va_Qi (fun (r : Int32) (_ : Unit) => r = p_isBusy steps) (fun u => PostW D classes (va_A [(a_cores, .inr (4, [.ref a_steps, .ref a_wishes, .ref a_ranks, .ref a_waits, .ref a_told, .ref a_grants, .int ticksHeld])), (a_steps, .inl (cI, 4, .inl steps))] sz) [(a_cores, .inr (4, [.ref a_steps, .ref a_wishes, .ref a_ranks, .ref a_waits, .ref a_told, .ref a_grants, .int ticksHeld])), (a_steps, .inl (cI, 4, .inl steps))]) (va_A [(a_cores, .inr (4, [.ref a_steps, .ref a_wishes, .ref a_ranks, .ref a_waits, .ref a_told, .ref a_grants, .int ticksHeld])), (a_steps, .inl (cI, 4, .inl steps))] sz)) 0 0 (va_A [(a_cores, .inr (4, [.ref a_steps, .ref a_wishes, .ref a_ranks, .ref a_waits, .ref a_told, .ref a_grants, .int ticksHeld])), (a_steps, .inl (cI, 4, .inl steps))] sz) := by
  refine Met.ofQ (cc := prog_3_method_4_code) (maxL := 2) (ret := (some .boolean)) (by decide +kernel) rfl ?_
  intro p e s m args below meth c s₁ Q B hml hv hQ
  obtain ⟨rfl, rfl, hZ, hP, hK, hD0⟩ := hv
  have hx := B.exec
  have hb := B.bytes
  have hr := B.returns
  have hown : s.vm.findClass R_Cores = some m.cls := findClass_of_methodNamed B.named
  have hlocks := B.notSynchronized
  clear B
  have hD := hD0.self (sz := s.heap.size)
  generalize hAe : va_A [(a_cores, .inr (4, [.ref a_steps, .ref a_wishes, .ref a_ranks, .ref a_waits, .ref a_told, .ref a_grants, .int ticksHeld])), (a_steps, .inl (cI, 4, .inl steps))] s.heap.size = A at hD hQ
  have hA : ∀ q : Nat, s.heap.size ≤ q → A q := fun q h => by rw [← hAe]; exact Or.inr h
  clear hAe hD0
  have hS : va_S A s.heap s.heap [] := va_S.rf
  have hl := lv_entry ([.ref a_cores]) (n := 2) (Nat.le_of_ble_eq_true rfl)
  rw [lg_entry_eq]
  generalize (lg_sl ([.ref a_cores]) ++ List.replicate (2 - (lg_sl ([.ref a_cores])).length) Slot.unset).toArray = ls at hl ⊢
  have hl : lv_has ls 2 [(0, .ref a_cores)] := hl
  have hR : p_isBusy steps = (p_isBusy_2 steps 4 0) := rfl
  refine lv_iconst (v := nI 0) hx hb d_Cores_isBusy_0 (by decide) ?_
  refine lv_istore_n (lv' := [(1, .int (nI 0)), (0, .ref a_cores)]) hx hb d_Cores_isBusy_1 rfl hl (by decide) rfl (fun ls hl => ?_)
  have key2 : ∀ (r : Nat) (k : Nat) (ls : Array Slot) (H : Heap) (locs : List Loc), k + r = 4 → lv_has ls 2 [(0, .ref a_cores), (1, .int (nI k))] → va_P D classes [(a_cores, .inr (4, [.ref a_steps, .ref a_wishes, .ref a_ranks, .ref a_waits, .ref a_told, .ref a_grants, .int ticksHeld])), (a_steps, .inl (cI, 4, .inl steps))] H → va_D A [(a_cores, .inr (4, [.ref a_steps, .ref a_wishes, .ref a_ranks, .ref a_waits, .ref a_told, .ref a_grants, .int ticksHeld])), (a_steps, .inl (cI, 4, .inl steps))] → va_S A s.heap H locs → p_isBusy steps = p_isBusy_2 steps r k → W p l e { frames := 0, cells := 0, slots := 0, locals := 0 } s m ([.ref a_cores]).toArray below meth c H locs 0 0 Q (F0 m 2 ls []) := by
    intro r
    induction r with
    | zero =>
      intro k ls H locs hk hl hP hD hS hR
      obtain rfl : k = 4 := by omega
      have hR : p_isBusy steps = (nI 0) := hR.trans rfl
      refine lv_iload_n hx hb d_Cores_isBusy_2 rfl (lv_at hl 1 rfl) ?_
      refine lv_iconst (v := nI 4) hx hb d_Cores_isBusy_3 (by decide) ?_
      refine nn_icmp_ge (tgt := 24) hx hb (by omega) (by omega) d_Cores_isBusy_4 (by decide) (fun _ => ?_) (fun h => absurd (by omega) h)
      refine lv_iconst (v := nI 0) hx hb d_Cores_isBusy_24 (by decide) ?_
      exact (W.zret (v := nI 0) (ty := .boolean) hx hb hr rfl (fun t9 ht hW => ⟨⟨nI 0, (), rfl, hR.symm, by rw [ht]; exact hP, hD⟩, hS.F ht⟩) hS.2.2 d_Cores_isBusy_25).mono hQ
    | succ r ih =>
      intro k ls H locs hk hl hP hD hS hR
      have hk1 : k < 4 := by omega
      have hR : p_isBusy steps = (if (steps k) ≤ 0 then (p_isBusy_2 steps r (k + 1)) else (nI 1)) := hR.trans rfl
      refine lv_iload_n hx hb d_Cores_isBusy_2 rfl (lv_at hl 1 rfl) ?_
      refine lv_iconst (v := nI 4) hx hb d_Cores_isBusy_3 (by decide) ?_
      refine nn_icmp_ge (tgt := 24) hx hb (by omega) (by omega) d_Cores_isBusy_4 (by decide) (fun h => absurd h (by omega)) (fun _ => ?_)
      refine lv_aload_n hx hb d_Cores_isBusy_7 rfl (lv_at hl 0 rfl) ?_
      refine va_get (D := D) (ci := 4) (v := .ref a_steps) (C := R_Cores) (T := F_Cores) (N := 7) hx hb (u_Cores zh hZ) (fun _ h => h) hown hK hP 0 rfl rfl 0 (by decide) (wd zh hZ 177 q_177 rfl) (fun _ h9 => h9) rfl d_Cores_isBusy_8 ?_
      refine lv_iload_n hx hb d_Cores_isBusy_11 rfl (lv_at hl 1 rfl) ?_
      refine nn_iald hx hb hK hP 1 0 rfl rfl (j := k) (by omega) (by decide) d_Cores_isBusy_12 ?_
      refine lv_if_le (tgt := 18) hx hb d_Cores_isBusy_13 (by decide) (fun h1 => ?_) (fun h1 => ?_)
      · have hR := hR.trans (if_pos h1)
        refine lv_iinc (k := 1) (v := nI (k + 1)) (lv' := [(1, .int (nI (k + 1))), (0, .ref a_cores)]) hx hb d_Cores_isBusy_18 hl rfl (by rw [show Int32.ofInt 1 = nI 1 from by decide, nI_add]) (by decide) rfl (fun ls hl => ?_)
        refine lv_goto (tgt := 2) hx hb d_Cores_isBusy_21 (by decide) ?_
        exact ih (k + 1) _ _ _ (by omega) (lv_sub hl [1, 0] rfl) hP hD hS hR
      · have hR := hR.trans (if_neg h1)
        refine lv_iconst (v := nI 1) hx hb d_Cores_isBusy_16 (by decide) ?_
        exact (W.zret (v := nI 1) (ty := .boolean) hx hb hr rfl (fun t9 ht hW => ⟨⟨nI 1, (), rfl, hR.symm, by rw [ht]; exact hP, hD⟩, hS.F ht⟩) hS.2.2 d_Cores_isBusy_17).mono hQ
  exact key2 4 0 _ _ _ (by omega) (lv_sub hl [1, 0] rfl) hP hD hS hR
def p_coresPass (ticksHeld : Int32) (steps : Nat → Int32) : (Nat → Int32) × Int32 := if (nI 8) ≤ ticksHeld then (if ticksHeld = (nI 8) then (ap1 (p_fill4 steps (nI 0)) (fun (u1_0 : Nat → Int32) => ((u1_0, ticksHeld)))) else (steps, ticksHeld)) else (if (ticksHeld + (nI 1)) = (nI 8) then (ap1 (p_fill4 steps (nI 0)) (fun (u2_0 : Nat → Int32) => ((u2_0, (ticksHeld + (nI 1)))))) else (steps, (ticksHeld + (nI 1))))
set_option maxHeartbeats 1000000 in
set_option maxRecDepth 100000 in
theorem c_coresPass (l : Launch) {z : State} {za : Array Value} (zh : ∀ w ∈ lw_tbl, w.before za z = true) (D : va_G) (cI cZ cJ : ClassId) (a_cores : Nat) (a_steps : Nat) (a_wishes : Nat) (a_ranks : Nat) (a_waits : Nat) (a_told : Nat) (a_grants : Nat) (sz : Nat) (ticksHeld : Int32) (steps : Nat → Int32) :
    Met l y_Cores_passTick [Cond.code y_Cores_passTick prog_3_method_5_code 1 none] { frames := 1, cells := 0, slots := 0, locals := 23 } (va_Pc [.ref a_cores] (PreW z D classes cI cZ cJ sz [(a_cores, .inr (4, [.ref a_steps, .ref a_wishes, .ref a_ranks, .ref a_waits, .ref a_told, .ref a_grants, .int ticksHeld])), (a_steps, .inl (cI, 4, .inl steps))])) (va_Qv (fun (u : (Nat → Int32) × Int32) => u = p_coresPass ticksHeld steps) (fun u => PostW D classes (va_A [(a_cores, .inr (4, [.ref a_steps, .ref a_wishes, .ref a_ranks, .ref a_waits, .ref a_told, .ref a_grants, .int ticksHeld])), (a_steps, .inl (cI, 4, .inl steps))] sz) [(a_cores, .inr (4, [.ref a_steps, .ref a_wishes, .ref a_ranks, .ref a_waits, .ref a_told, .ref a_grants, .int u.2])), (a_steps, .inl (cI, 4, .inl u.1))]) (va_A [(a_cores, .inr (4, [.ref a_steps, .ref a_wishes, .ref a_ranks, .ref a_waits, .ref a_told, .ref a_grants, .int ticksHeld])), (a_steps, .inl (cI, 4, .inl steps))] sz)) 0 0 (va_A [(a_cores, .inr (4, [.ref a_steps, .ref a_wishes, .ref a_ranks, .ref a_waits, .ref a_told, .ref a_grants, .int ticksHeld])), (a_steps, .inl (cI, 4, .inl steps))] sz) := by
  refine Met.ofQ (cc := prog_3_method_5_code) (maxL := 1) (ret := none) (by decide +kernel) rfl ?_
  intro p e s m args below meth c s₁ Q B hml hv hQ
  obtain ⟨rfl, rfl, hZ, hP, hK, hD0⟩ := hv
  have hx := B.exec
  have hb := B.bytes
  have hr := B.returns
  have hown : s.vm.findClass R_Cores = some m.cls := findClass_of_methodNamed B.named
  have hlocks := B.notSynchronized
  clear B
  have hD := hD0.self (sz := s.heap.size)
  generalize hAe : va_A [(a_cores, .inr (4, [.ref a_steps, .ref a_wishes, .ref a_ranks, .ref a_waits, .ref a_told, .ref a_grants, .int ticksHeld])), (a_steps, .inl (cI, 4, .inl steps))] s.heap.size = A at hD hQ
  have hA : ∀ q : Nat, s.heap.size ≤ q → A q := fun q h => by rw [← hAe]; exact Or.inr h
  clear hAe hD0
  have hS : va_S A s.heap s.heap [] := va_S.rf
  have hl := lv_entry ([.ref a_cores]) (n := 1) (Nat.le_of_ble_eq_true rfl)
  rw [lg_entry_eq]
  generalize (lg_sl ([.ref a_cores]) ++ List.replicate (1 - (lg_sl ([.ref a_cores])).length) Slot.unset).toArray = ls at hl ⊢
  have hl : lv_has ls 1 [(0, .ref a_cores)] := hl
  have hR : p_coresPass ticksHeld steps = (if (nI 8) ≤ ticksHeld then (if ticksHeld = (nI 8) then (ap1 (p_fill4 steps (nI 0)) (fun (u1_0 : Nat → Int32) => ((u1_0, ticksHeld)))) else (steps, ticksHeld)) else (if (ticksHeld + (nI 1)) = (nI 8) then (ap1 (p_fill4 steps (nI 0)) (fun (u2_0 : Nat → Int32) => ((u2_0, (ticksHeld + (nI 1)))))) else (steps, (ticksHeld + (nI 1))))) := rfl
  refine lv_aload_n hx hb d_Cores_passTick_0 rfl (lv_at hl 0 rfl) ?_
  refine va_get (D := D) (ci := 4) (v := .int ticksHeld) (C := R_Cores) (T := F_Cores) (N := 7) hx hb (u_Cores zh hZ) (fun _ h => h) hown hK hP 0 rfl rfl 6 (by decide) (wd zh hZ 189 q_189 rfl) (fun _ h9 => h9) rfl d_Cores_passTick_1 ?_
  refine lv_bipush (v := nI 8) hx hb d_Cores_passTick_4 (by decide) ?_
  refine lv_icmp_ge (tgt := 19) hx hb d_Cores_passTick_6 (by decide) (fun h1 => ?_) (fun h1 => ?_)
  · have hR := hR.trans (if_pos h1)
    refine lv_aload_n hx hb d_Cores_passTick_19 rfl (lv_at hl 0 rfl) ?_
    refine va_get (D := D) (ci := 4) (v := .int ticksHeld) (C := R_Cores) (T := F_Cores) (N := 7) hx hb (u_Cores zh hZ) (fun _ h => h) hown hK hP 0 rfl rfl 6 (by decide) (wd zh hZ 189 q_189 rfl) (fun _ h9 => h9) rfl d_Cores_passTick_20 ?_
    refine lv_bipush (v := nI 8) hx hb d_Cores_passTick_23 (by decide) ?_
    refine lv_icmp_ne (tgt := 36) hx hb d_Cores_passTick_25 (by decide) (fun h2 => ?_) (fun h2 => ?_)
    · have hR := hR.trans (if_neg h2)
      exact (W.vret hx hb hr (fun t9 ht hW => ⟨⟨(steps, ticksHeld), rfl, hR.symm, by rw [ht]; exact hP, hD⟩, hS.F ht⟩) hS.2.2 d_Cores_passTick_36).mono hQ
    · have hR := hR.trans (if_pos h2)
      refine lv_aload_n hx hb d_Cores_passTick_28 rfl (lv_at hl 0 rfl) ?_
      refine va_get (D := D) (ci := 4) (v := .ref a_steps) (C := R_Cores) (T := F_Cores) (N := 7) hx hb (u_Cores zh hZ) (fun _ h => h) hown hK hP 0 rfl rfl 0 (by decide) (wd zh hZ 177 q_177 rfl) (fun _ h9 => h9) rfl d_Cores_passTick_29 ?_
      refine lv_iconst (v := nI 0) hx hb d_Cores_passTick_32 (by decide) ?_
      refine ke_v (S := (Nat → Int32)) (fun uu => [(a_cores, .inr (4, [.ref a_steps, .ref a_wishes, .ref a_ranks, .ref a_waits, .ref a_told, .ref a_grants, .int ticksHeld])), (a_steps, .inl (cI, 4, .inl uu))]) (kr_S (As := [.ref a_steps, .int (nI 0)]) (rest := []) hx hb hml hown hZ (c_fill4 l zh D cI cZ cJ a_steps _ steps (nI 0)) (s_Cores_30_Arrays_fill zh hZ) (wd zh hZ 62 q_62 rfl) ⟨rfl, rfl, by decide, by decide⟩ (hP.sub [1] rfl) hK (hD.sub [1] (by decide) rfl) rfl hl.1 rfl (Nat.le_of_ble_eq_true rfl) d_Cores_passTick_33 (Nat.zero_le _) (Nat.zero_le _)) hP hD hS hA 2 [1] [0] rfl (fun _ => rfl) (fun _ => rfl) (by decide) (by decide) (fun _ => rfl) (fun _ => rfl) rfl (fun uu H locs hu hP hD hS => ?_)
      obtain ⟨u1_0, rfl⟩ : ∃ z9, z9 = uu := ⟨_, rfl⟩
      have hu : (u1_0) = (p_fill4 steps (nI 0)) := hu
      have hR := kc_ap1 (fun (u1_0 : Nat → Int32) => ((u1_0, ticksHeld))) hu hR
      have hP : va_P D classes [(a_cores, .inr (4, [.ref a_steps, .ref a_wishes, .ref a_ranks, .ref a_waits, .ref a_told, .ref a_grants, .int ticksHeld])), (a_steps, .inl (cI, 4, .inl u1_0))] H := hP
      have hD : va_D A [(a_cores, .inr (4, [.ref a_steps, .ref a_wishes, .ref a_ranks, .ref a_waits, .ref a_told, .ref a_grants, .int ticksHeld])), (a_steps, .inl (cI, 4, .inl u1_0))] := hD
      exact (W.vret hx hb hr (fun t9 ht hW => ⟨⟨(u1_0, ticksHeld), rfl, hR.symm, by rw [ht]; exact hP, hD⟩, hS.F ht⟩) hS.2.2 d_Cores_passTick_36).mono hQ
  · have hR := hR.trans (if_neg h1)
    refine lv_aload_n hx hb d_Cores_passTick_9 rfl (lv_at hl 0 rfl) ?_
    refine lv_dup hx hb d_Cores_passTick_10 rfl ?_
    refine va_get (D := D) (ci := 4) (v := .int ticksHeld) (C := R_Cores) (T := F_Cores) (N := 7) hx hb (u_Cores zh hZ) (fun _ h => h) hown hK hP 0 rfl rfl 6 (by decide) (wd zh hZ 189 q_189 rfl) (fun _ h9 => h9) rfl d_Cores_passTick_11 ?_
    refine lv_iconst (v := nI 1) hx hb d_Cores_passTick_14 (by decide) ?_
    refine lv_iadd hx hb d_Cores_passTick_15 ?_
    refine va_put (D := D) (ci := 4) (v := .int (ticksHeld + (nI 1))) (ty := .int) (C := R_Cores) (T := F_Cores) (N := 7) hx hb (u_Cores zh hZ) (fun _ h => h) t_Cores t_Cores_ok n_Cores hown hK hP hD hS 0 rfl rfl 6 (by decide) (wd zh hZ 189 q_189 rfl) (fun _ h9 => h9) rfl (by decide +kernel) rfl rfl (Nat.le_of_ble_eq_true rfl) d_Cores_passTick_16 (fun H locs hP hD hS => ?_)
    have hP : va_P D classes [(a_cores, .inr (4, [.ref a_steps, .ref a_wishes, .ref a_ranks, .ref a_waits, .ref a_told, .ref a_grants, .int (ticksHeld + (nI 1))])), (a_steps, .inl (cI, 4, .inl steps))] H := hP
    have hD : va_D A [(a_cores, .inr (4, [.ref a_steps, .ref a_wishes, .ref a_ranks, .ref a_waits, .ref a_told, .ref a_grants, .int (ticksHeld + (nI 1))])), (a_steps, .inl (cI, 4, .inl steps))] := hD
    refine lv_aload_n hx hb d_Cores_passTick_19 rfl (lv_at hl 0 rfl) ?_
    refine va_get (D := D) (ci := 4) (v := .int (ticksHeld + (nI 1))) (C := R_Cores) (T := F_Cores) (N := 7) hx hb (u_Cores zh hZ) (fun _ h => h) hown hK hP 0 rfl rfl 6 (by decide) (wd zh hZ 189 q_189 rfl) (fun _ h9 => h9) rfl d_Cores_passTick_20 ?_
    refine lv_bipush (v := nI 8) hx hb d_Cores_passTick_23 (by decide) ?_
    refine lv_icmp_ne (tgt := 36) hx hb d_Cores_passTick_25 (by decide) (fun h3 => ?_) (fun h3 => ?_)
    · have hR := hR.trans (if_neg h3)
      exact (W.vret hx hb hr (fun t9 ht hW => ⟨⟨(steps, (ticksHeld + (nI 1))), rfl, hR.symm, by rw [ht]; exact hP, hD⟩, hS.F ht⟩) hS.2.2 d_Cores_passTick_36).mono hQ
    · have hR := hR.trans (if_pos h3)
      refine lv_aload_n hx hb d_Cores_passTick_28 rfl (lv_at hl 0 rfl) ?_
      refine va_get (D := D) (ci := 4) (v := .ref a_steps) (C := R_Cores) (T := F_Cores) (N := 7) hx hb (u_Cores zh hZ) (fun _ h => h) hown hK hP 0 rfl rfl 0 (by decide) (wd zh hZ 177 q_177 rfl) (fun _ h9 => h9) rfl d_Cores_passTick_29 ?_
      refine lv_iconst (v := nI 0) hx hb d_Cores_passTick_32 (by decide) ?_
      refine ke_v (S := (Nat → Int32)) (fun uu => [(a_cores, .inr (4, [.ref a_steps, .ref a_wishes, .ref a_ranks, .ref a_waits, .ref a_told, .ref a_grants, .int (ticksHeld + (nI 1))])), (a_steps, .inl (cI, 4, .inl uu))]) (kr_S (As := [.ref a_steps, .int (nI 0)]) (rest := []) hx hb hml hown hZ (c_fill4 l zh D cI cZ cJ a_steps _ steps (nI 0)) (s_Cores_30_Arrays_fill zh hZ) (wd zh hZ 62 q_62 rfl) ⟨rfl, rfl, by decide, by decide⟩ (hP.sub [1] rfl) hK (hD.sub [1] (by decide) rfl) rfl hl.1 rfl (Nat.le_of_ble_eq_true rfl) d_Cores_passTick_33 (Nat.zero_le _) (Nat.zero_le _)) hP hD hS hA 2 [1] [0] rfl (fun _ => rfl) (fun _ => rfl) (by decide) (by decide) (fun _ => rfl) (fun _ => rfl) rfl (fun uu H locs hu hP hD hS => ?_)
      obtain ⟨u2_0, rfl⟩ : ∃ z9, z9 = uu := ⟨_, rfl⟩
      have hu : (u2_0) = (p_fill4 steps (nI 0)) := hu
      have hR := kc_ap1 (fun (u2_0 : Nat → Int32) => ((u2_0, (ticksHeld + (nI 1))))) hu hR
      have hP : va_P D classes [(a_cores, .inr (4, [.ref a_steps, .ref a_wishes, .ref a_ranks, .ref a_waits, .ref a_told, .ref a_grants, .int (ticksHeld + (nI 1))])), (a_steps, .inl (cI, 4, .inl u2_0))] H := hP
      have hD : va_D A [(a_cores, .inr (4, [.ref a_steps, .ref a_wishes, .ref a_ranks, .ref a_waits, .ref a_told, .ref a_grants, .int (ticksHeld + (nI 1))])), (a_steps, .inl (cI, 4, .inl u2_0))] := hD
      exact (W.vret hx hb hr (fun t9 ht hW => ⟨⟨(u2_0, (ticksHeld + (nI 1))), rfl, hR.symm, by rw [ht]; exact hP, hD⟩, hS.F ht⟩) hS.2.2 d_Cores_passTick_36).mono hQ
def p_comesBefore (ranks : Nat → Int32) (waits : Nat → Int32) (k : Nat) (other : Nat) : Int32 := if (ranks k) = (ranks other) then (if (waits k) = (waits other) then (if other ≤ k then (nI 0) else (nI 1)) else (if (waits k) ≤ (waits other) then (nI 0) else (nI 1))) else (if (ranks k) ≤ (ranks other) then (nI 0) else (nI 1))
set_option maxHeartbeats 1000000 in
set_option maxRecDepth 100000 in
theorem c_comesBefore (l : Launch) {z : State} {za : Array Value} (zh : ∀ w ∈ lw_tbl, w.before za z = true) (D : va_G) (cI cZ cJ : ClassId) (a_cores : Nat) (a_steps : Nat) (a_wishes : Nat) (a_ranks : Nat) (a_waits : Nat) (a_told : Nat) (a_grants : Nat) (sz : Nat) (ticksHeld : Int32) (ranks : Nat → Int32) (waits : Nat → Int32) (k : Nat) (other : Nat) (hk : k < 4) (ho : other < 4) :
    Met l y_Cores_comesBefore [Cond.code y_Cores_comesBefore prog_3_method_9_code 3 (some .boolean)] { frames := 0, cells := 0, slots := 0, locals := 0 } (va_Pc [.ref a_cores, .int (nI k), .int (nI other)] (PreW z D classes cI cZ cJ sz [(a_cores, .inr (4, [.ref a_steps, .ref a_wishes, .ref a_ranks, .ref a_waits, .ref a_told, .ref a_grants, .int ticksHeld])), (a_ranks, .inl (cI, 4, .inl ranks)), (a_waits, .inl (cI, 4, .inl waits))])) (va_Qi (fun (r : Int32) (_ : Unit) => r = p_comesBefore ranks waits k other) (fun u => PostW D classes (va_A [(a_cores, .inr (4, [.ref a_steps, .ref a_wishes, .ref a_ranks, .ref a_waits, .ref a_told, .ref a_grants, .int ticksHeld])), (a_ranks, .inl (cI, 4, .inl ranks)), (a_waits, .inl (cI, 4, .inl waits))] sz) [(a_cores, .inr (4, [.ref a_steps, .ref a_wishes, .ref a_ranks, .ref a_waits, .ref a_told, .ref a_grants, .int ticksHeld])), (a_ranks, .inl (cI, 4, .inl ranks)), (a_waits, .inl (cI, 4, .inl waits))]) (va_A [(a_cores, .inr (4, [.ref a_steps, .ref a_wishes, .ref a_ranks, .ref a_waits, .ref a_told, .ref a_grants, .int ticksHeld])), (a_ranks, .inl (cI, 4, .inl ranks)), (a_waits, .inl (cI, 4, .inl waits))] sz)) 0 0 (va_A [(a_cores, .inr (4, [.ref a_steps, .ref a_wishes, .ref a_ranks, .ref a_waits, .ref a_told, .ref a_grants, .int ticksHeld])), (a_ranks, .inl (cI, 4, .inl ranks)), (a_waits, .inl (cI, 4, .inl waits))] sz) := by
  refine Met.ofQ (cc := prog_3_method_9_code) (maxL := 3) (ret := (some .boolean)) (by decide +kernel) rfl ?_
  intro p e s m args below meth c s₁ Q B hml hv hQ
  obtain ⟨rfl, rfl, hZ, hP, hK, hD0⟩ := hv
  have hx := B.exec
  have hb := B.bytes
  have hr := B.returns
  have hown : s.vm.findClass R_Cores = some m.cls := findClass_of_methodNamed B.named
  have hlocks := B.notSynchronized
  clear B
  have hD := hD0.self (sz := s.heap.size)
  generalize hAe : va_A [(a_cores, .inr (4, [.ref a_steps, .ref a_wishes, .ref a_ranks, .ref a_waits, .ref a_told, .ref a_grants, .int ticksHeld])), (a_ranks, .inl (cI, 4, .inl ranks)), (a_waits, .inl (cI, 4, .inl waits))] s.heap.size = A at hD hQ
  have hA : ∀ q : Nat, s.heap.size ≤ q → A q := fun q h => by rw [← hAe]; exact Or.inr h
  clear hAe hD0
  have hS : va_S A s.heap s.heap [] := va_S.rf
  have hl := lv_entry ([.ref a_cores, .int (nI k), .int (nI other)]) (n := 3) (Nat.le_of_ble_eq_true rfl)
  rw [lg_entry_eq]
  generalize (lg_sl ([.ref a_cores, .int (nI k), .int (nI other)]) ++ List.replicate (3 - (lg_sl ([.ref a_cores, .int (nI k), .int (nI other)])).length) Slot.unset).toArray = ls at hl ⊢
  have hl : lv_has ls 3 [(0, .ref a_cores), (1, .int (nI k)), (2, .int (nI other))] := hl
  have hR : p_comesBefore ranks waits k other = (if (ranks k) = (ranks other) then (if (waits k) = (waits other) then (if other ≤ k then (nI 0) else (nI 1)) else (if (waits k) ≤ (waits other) then (nI 0) else (nI 1))) else (if (ranks k) ≤ (ranks other) then (nI 0) else (nI 1))) := rfl
  refine lv_aload_n hx hb d_Cores_comesBefore_0 rfl (lv_at hl 0 rfl) ?_
  refine va_get (D := D) (ci := 4) (v := .ref a_ranks) (C := R_Cores) (T := F_Cores) (N := 7) hx hb (u_Cores zh hZ) (fun _ h => h) hown hK hP 0 rfl rfl 2 (by decide) (wd zh hZ 182 q_182 rfl) (fun _ h9 => h9) rfl d_Cores_comesBefore_1 ?_
  refine lv_iload_n hx hb d_Cores_comesBefore_4 rfl (lv_at hl 1 rfl) ?_
  refine nn_iald hx hb hK hP 1 0 rfl rfl (j := k) (by omega) (by decide) d_Cores_comesBefore_5 ?_
  refine lv_aload_n hx hb d_Cores_comesBefore_6 rfl (lv_at hl 0 rfl) ?_
  refine va_get (D := D) (ci := 4) (v := .ref a_ranks) (C := R_Cores) (T := F_Cores) (N := 7) hx hb (u_Cores zh hZ) (fun _ h => h) hown hK hP 0 rfl rfl 2 (by decide) (wd zh hZ 182 q_182 rfl) (fun _ h9 => h9) rfl d_Cores_comesBefore_7 ?_
  refine lv_iload_n hx hb d_Cores_comesBefore_10 rfl (lv_at hl 2 rfl) ?_
  refine nn_iald hx hb hK hP 1 0 rfl rfl (j := other) (by omega) (by decide) d_Cores_comesBefore_11 ?_
  refine lv_icmp_eq (tgt := 36) hx hb d_Cores_comesBefore_12 (by decide) (fun h1 => ?_) (fun h1 => ?_)
  · have hR := hR.trans (if_pos h1)
    refine lv_aload_n hx hb d_Cores_comesBefore_36 rfl (lv_at hl 0 rfl) ?_
    refine va_get (D := D) (ci := 4) (v := .ref a_waits) (C := R_Cores) (T := F_Cores) (N := 7) hx hb (u_Cores zh hZ) (fun _ h => h) hown hK hP 0 rfl rfl 3 (by decide) (wd zh hZ 184 q_184 rfl) (fun _ h9 => h9) rfl d_Cores_comesBefore_37 ?_
    refine lv_iload_n hx hb d_Cores_comesBefore_40 rfl (lv_at hl 1 rfl) ?_
    refine nn_iald hx hb hK hP 2 0 rfl rfl (j := k) (by omega) (by decide) d_Cores_comesBefore_41 ?_
    refine lv_aload_n hx hb d_Cores_comesBefore_42 rfl (lv_at hl 0 rfl) ?_
    refine va_get (D := D) (ci := 4) (v := .ref a_waits) (C := R_Cores) (T := F_Cores) (N := 7) hx hb (u_Cores zh hZ) (fun _ h => h) hown hK hP 0 rfl rfl 3 (by decide) (wd zh hZ 184 q_184 rfl) (fun _ h9 => h9) rfl d_Cores_comesBefore_43 ?_
    refine lv_iload_n hx hb d_Cores_comesBefore_46 rfl (lv_at hl 2 rfl) ?_
    refine nn_iald hx hb hK hP 2 0 rfl rfl (j := other) (by omega) (by decide) d_Cores_comesBefore_47 ?_
    refine lv_icmp_eq (tgt := 72) hx hb d_Cores_comesBefore_48 (by decide) (fun h2 => ?_) (fun h2 => ?_)
    · have hR := hR.trans (if_pos h2)
      refine lv_iload_n hx hb d_Cores_comesBefore_72 rfl (lv_at hl 1 rfl) ?_
      refine lv_iload_n hx hb d_Cores_comesBefore_73 rfl (lv_at hl 2 rfl) ?_
      refine nn_icmp_ge (tgt := 81) hx hb (by omega) (by omega) d_Cores_comesBefore_74 (by decide) (fun h3 => ?_) (fun h3 => ?_)
      · have hR := hR.trans (if_pos h3)
        refine lv_iconst (v := nI 0) hx hb d_Cores_comesBefore_81 (by decide) ?_
        exact (W.zret (v := nI 0) (ty := .boolean) hx hb hr rfl (fun t9 ht hW => ⟨⟨nI 0, (), rfl, hR.symm, by rw [ht]; exact hP, hD⟩, hS.F ht⟩) hS.2.2 d_Cores_comesBefore_82).mono hQ
      · have hR := hR.trans (if_neg h3)
        refine lv_iconst (v := nI 1) hx hb d_Cores_comesBefore_77 (by decide) ?_
        refine lv_goto (tgt := 82) hx hb d_Cores_comesBefore_78 (by decide) ?_
        exact (W.zret (v := nI 1) (ty := .boolean) hx hb hr rfl (fun t9 ht hW => ⟨⟨nI 1, (), rfl, hR.symm, by rw [ht]; exact hP, hD⟩, hS.F ht⟩) hS.2.2 d_Cores_comesBefore_82).mono hQ
    · have hR := hR.trans (if_neg h2)
      refine lv_aload_n hx hb d_Cores_comesBefore_51 rfl (lv_at hl 0 rfl) ?_
      refine va_get (D := D) (ci := 4) (v := .ref a_waits) (C := R_Cores) (T := F_Cores) (N := 7) hx hb (u_Cores zh hZ) (fun _ h => h) hown hK hP 0 rfl rfl 3 (by decide) (wd zh hZ 184 q_184 rfl) (fun _ h9 => h9) rfl d_Cores_comesBefore_52 ?_
      refine lv_iload_n hx hb d_Cores_comesBefore_55 rfl (lv_at hl 1 rfl) ?_
      refine nn_iald hx hb hK hP 2 0 rfl rfl (j := k) (by omega) (by decide) d_Cores_comesBefore_56 ?_
      refine lv_aload_n hx hb d_Cores_comesBefore_57 rfl (lv_at hl 0 rfl) ?_
      refine va_get (D := D) (ci := 4) (v := .ref a_waits) (C := R_Cores) (T := F_Cores) (N := 7) hx hb (u_Cores zh hZ) (fun _ h => h) hown hK hP 0 rfl rfl 3 (by decide) (wd zh hZ 184 q_184 rfl) (fun _ h9 => h9) rfl d_Cores_comesBefore_58 ?_
      refine lv_iload_n hx hb d_Cores_comesBefore_61 rfl (lv_at hl 2 rfl) ?_
      refine nn_iald hx hb hK hP 2 0 rfl rfl (j := other) (by omega) (by decide) d_Cores_comesBefore_62 ?_
      refine lv_icmp_le (tgt := 70) hx hb d_Cores_comesBefore_63 (by decide) (fun h4 => ?_) (fun h4 => ?_)
      · have hR := hR.trans (if_pos h4)
        refine lv_iconst (v := nI 0) hx hb d_Cores_comesBefore_70 (by decide) ?_
        exact (W.zret (v := nI 0) (ty := .boolean) hx hb hr rfl (fun t9 ht hW => ⟨⟨nI 0, (), rfl, hR.symm, by rw [ht]; exact hP, hD⟩, hS.F ht⟩) hS.2.2 d_Cores_comesBefore_71).mono hQ
      · have hR := hR.trans (if_neg h4)
        refine lv_iconst (v := nI 1) hx hb d_Cores_comesBefore_66 (by decide) ?_
        refine lv_goto (tgt := 71) hx hb d_Cores_comesBefore_67 (by decide) ?_
        exact (W.zret (v := nI 1) (ty := .boolean) hx hb hr rfl (fun t9 ht hW => ⟨⟨nI 1, (), rfl, hR.symm, by rw [ht]; exact hP, hD⟩, hS.F ht⟩) hS.2.2 d_Cores_comesBefore_71).mono hQ
  · have hR := hR.trans (if_neg h1)
    refine lv_aload_n hx hb d_Cores_comesBefore_15 rfl (lv_at hl 0 rfl) ?_
    refine va_get (D := D) (ci := 4) (v := .ref a_ranks) (C := R_Cores) (T := F_Cores) (N := 7) hx hb (u_Cores zh hZ) (fun _ h => h) hown hK hP 0 rfl rfl 2 (by decide) (wd zh hZ 182 q_182 rfl) (fun _ h9 => h9) rfl d_Cores_comesBefore_16 ?_
    refine lv_iload_n hx hb d_Cores_comesBefore_19 rfl (lv_at hl 1 rfl) ?_
    refine nn_iald hx hb hK hP 1 0 rfl rfl (j := k) (by omega) (by decide) d_Cores_comesBefore_20 ?_
    refine lv_aload_n hx hb d_Cores_comesBefore_21 rfl (lv_at hl 0 rfl) ?_
    refine va_get (D := D) (ci := 4) (v := .ref a_ranks) (C := R_Cores) (T := F_Cores) (N := 7) hx hb (u_Cores zh hZ) (fun _ h => h) hown hK hP 0 rfl rfl 2 (by decide) (wd zh hZ 182 q_182 rfl) (fun _ h9 => h9) rfl d_Cores_comesBefore_22 ?_
    refine lv_iload_n hx hb d_Cores_comesBefore_25 rfl (lv_at hl 2 rfl) ?_
    refine nn_iald hx hb hK hP 1 0 rfl rfl (j := other) (by omega) (by decide) d_Cores_comesBefore_26 ?_
    refine lv_icmp_le (tgt := 34) hx hb d_Cores_comesBefore_27 (by decide) (fun h5 => ?_) (fun h5 => ?_)
    · have hR := hR.trans (if_pos h5)
      refine lv_iconst (v := nI 0) hx hb d_Cores_comesBefore_34 (by decide) ?_
      exact (W.zret (v := nI 0) (ty := .boolean) hx hb hr rfl (fun t9 ht hW => ⟨⟨nI 0, (), rfl, hR.symm, by rw [ht]; exact hP, hD⟩, hS.F ht⟩) hS.2.2 d_Cores_comesBefore_35).mono hQ
    · have hR := hR.trans (if_neg h5)
      refine lv_iconst (v := nI 1) hx hb d_Cores_comesBefore_30 (by decide) ?_
      refine lv_goto (tgt := 35) hx hb d_Cores_comesBefore_31 (by decide) ?_
      exact (W.zret (v := nI 1) (ty := .boolean) hx hb hr rfl (fun t9 ht hW => ⟨⟨nI 1, (), rfl, hR.symm, by rw [ht]; exact hP, hD⟩, hS.F ht⟩) hS.2.2 d_Cores_comesBefore_35).mono hQ
def p_firstBut_7 (ranks : Nat → Int32) (waits : Nat → Int32) (served : Int32) : Nat → Nat → Nat → Int32 → Nat
  | 0, k, first, found => first
  | r + 1, k, first, found => if (served &&& ((nI 1) <<< ((nI k) &&& 31))) = 0 then (if found = 0 then (p_firstBut_7 ranks waits served r (k + 1) k (nI 1)) else (if (p_comesBefore ranks waits k first) = 0 then (p_firstBut_7 ranks waits served r (k + 1) first found) else (p_firstBut_7 ranks waits served r (k + 1) k (nI 1)))) else (p_firstBut_7 ranks waits served r (k + 1) first found)
def p_firstBut (ranks : Nat → Int32) (waits : Nat → Int32) (served : Int32) : Nat := p_firstBut_7 ranks waits served 4 0 0 (nI 0)
set_option maxHeartbeats 1000000 in
set_option maxRecDepth 100000 in
theorem c_firstBut (l : Launch) {z : State} {za : Array Value} (zh : ∀ w ∈ lw_tbl, w.before za z = true) (D : va_G) (cI cZ cJ : ClassId) (a_cores : Nat) (a_steps : Nat) (a_wishes : Nat) (a_ranks : Nat) (a_waits : Nat) (a_told : Nat) (a_grants : Nat) (sz : Nat) (ticksHeld : Int32) (ranks : Nat → Int32) (waits : Nat → Int32) (served : Int32) :
    Met l y_Cores_firstBut [Cond.code y_Cores_firstBut prog_3_method_8_code 6 (some .int)] { frames := 1, cells := 0, slots := 0, locals := 22 } (va_Pc [.ref a_cores, .int served] (PreW z D classes cI cZ cJ sz [(a_cores, .inr (4, [.ref a_steps, .ref a_wishes, .ref a_ranks, .ref a_waits, .ref a_told, .ref a_grants, .int ticksHeld])), (a_ranks, .inl (cI, 4, .inl ranks)), (a_waits, .inl (cI, 4, .inl waits))])) (va_Qi (fun (r : Int32) (_ : Unit) => r = nI (p_firstBut ranks waits served)) (fun u => PostW D classes (va_A [(a_cores, .inr (4, [.ref a_steps, .ref a_wishes, .ref a_ranks, .ref a_waits, .ref a_told, .ref a_grants, .int ticksHeld])), (a_ranks, .inl (cI, 4, .inl ranks)), (a_waits, .inl (cI, 4, .inl waits))] sz) [(a_cores, .inr (4, [.ref a_steps, .ref a_wishes, .ref a_ranks, .ref a_waits, .ref a_told, .ref a_grants, .int ticksHeld])), (a_ranks, .inl (cI, 4, .inl ranks)), (a_waits, .inl (cI, 4, .inl waits))]) (va_A [(a_cores, .inr (4, [.ref a_steps, .ref a_wishes, .ref a_ranks, .ref a_waits, .ref a_told, .ref a_grants, .int ticksHeld])), (a_ranks, .inl (cI, 4, .inl ranks)), (a_waits, .inl (cI, 4, .inl waits))] sz)) 0 0 (va_A [(a_cores, .inr (4, [.ref a_steps, .ref a_wishes, .ref a_ranks, .ref a_waits, .ref a_told, .ref a_grants, .int ticksHeld])), (a_ranks, .inl (cI, 4, .inl ranks)), (a_waits, .inl (cI, 4, .inl waits))] sz) := by
  refine Met.ofQ (cc := prog_3_method_8_code) (maxL := 6) (ret := (some .int)) (by decide +kernel) rfl ?_
  intro p e s m args below meth c s₁ Q B hml hv hQ
  obtain ⟨rfl, rfl, hZ, hP, hK, hD0⟩ := hv
  have hx := B.exec
  have hb := B.bytes
  have hr := B.returns
  have hown : s.vm.findClass R_Cores = some m.cls := findClass_of_methodNamed B.named
  have hlocks := B.notSynchronized
  clear B
  have hD := hD0.self (sz := s.heap.size)
  generalize hAe : va_A [(a_cores, .inr (4, [.ref a_steps, .ref a_wishes, .ref a_ranks, .ref a_waits, .ref a_told, .ref a_grants, .int ticksHeld])), (a_ranks, .inl (cI, 4, .inl ranks)), (a_waits, .inl (cI, 4, .inl waits))] s.heap.size = A at hD hQ
  have hA : ∀ q : Nat, s.heap.size ≤ q → A q := fun q h => by rw [← hAe]; exact Or.inr h
  clear hAe hD0
  have hS : va_S A s.heap s.heap [] := va_S.rf
  have hl := lv_entry ([.ref a_cores, .int served]) (n := 6) (Nat.le_of_ble_eq_true rfl)
  rw [lg_entry_eq]
  generalize (lg_sl ([.ref a_cores, .int served]) ++ List.replicate (6 - (lg_sl ([.ref a_cores, .int served])).length) Slot.unset).toArray = ls at hl ⊢
  have hl : lv_has ls 6 [(0, .ref a_cores), (1, .int served)] := hl
  have hR : p_firstBut ranks waits served = (p_firstBut_7 ranks waits served 4 0 0 (nI 0)) := rfl
  refine lv_iconst (v := nI 0) hx hb d_Cores_firstBut_0 (by decide) ?_
  refine lv_istore_n (lv' := [(2, .int (nI 0)), (0, .ref a_cores), (1, .int served)]) hx hb d_Cores_firstBut_1 rfl hl (by decide) rfl (fun ls hl => ?_)
  refine lv_iconst (v := nI 0) hx hb d_Cores_firstBut_2 (by decide) ?_
  refine lv_istore_n (lv' := [(3, .int (nI 0)), (2, .int (nI 0)), (0, .ref a_cores), (1, .int served)]) hx hb d_Cores_firstBut_3 rfl hl (by decide) rfl (fun ls hl => ?_)
  refine lv_iconst (v := nI 0) hx hb d_Cores_firstBut_4 (by decide) ?_
  refine lv_istore (lv' := [(4, .int (nI 0)), (3, .int (nI 0)), (2, .int (nI 0)), (0, .ref a_cores), (1, .int served)]) hx hb d_Cores_firstBut_5 hl (by decide) rfl (fun ls hl => ?_)
  have key7 : ∀ (r : Nat) (k : Nat) (first : Nat) (found : Int32) (ls : Array Slot) (H : Heap) (locs : List Loc), k + r = 4 → (first < 4) → lv_has ls 6 [(0, .ref a_cores), (1, .int served), (2, .int (nI first)), (3, .int found), (4, .int (nI k))] → va_P D classes [(a_cores, .inr (4, [.ref a_steps, .ref a_wishes, .ref a_ranks, .ref a_waits, .ref a_told, .ref a_grants, .int ticksHeld])), (a_ranks, .inl (cI, 4, .inl ranks)), (a_waits, .inl (cI, 4, .inl waits))] H → va_D A [(a_cores, .inr (4, [.ref a_steps, .ref a_wishes, .ref a_ranks, .ref a_waits, .ref a_told, .ref a_grants, .int ticksHeld])), (a_ranks, .inl (cI, 4, .inl ranks)), (a_waits, .inl (cI, 4, .inl waits))] → va_S A s.heap H locs → p_firstBut ranks waits served = p_firstBut_7 ranks waits served r k first found → W p l e { frames := 1, cells := 0, slots := 0, locals := 22 } s m ([.ref a_cores, .int served]).toArray below meth c H locs 0 0 Q (F0 m 7 ls []) := by
    intro r
    induction r with
    | zero =>
      intro k first found ls H locs hk hf hl hP hD hS hR
      obtain rfl : k = 4 := by omega
      have hR : p_firstBut ranks waits served = (first) := hR.trans rfl
      refine lv_iload hx hb d_Cores_firstBut_7 (lv_at hl 4 rfl) ?_
      refine lv_iconst (v := nI 4) hx hb d_Cores_firstBut_9 (by decide) ?_
      refine nn_icmp_ge (tgt := 59) hx hb (by omega) (by omega) d_Cores_firstBut_10 (by decide) (fun _ => ?_) (fun h => absurd (by omega) h)
      refine lv_iload_n hx hb d_Cores_firstBut_59 rfl (lv_at hl 2 rfl) ?_
      exact (W.iret (v := nI first) hx hb hr (fun t9 ht hW => ⟨⟨nI first, (), rfl, congrArg nI hR.symm, by rw [ht]; exact hP, hD⟩, hS.F ht⟩) hS.2.2 d_Cores_firstBut_60).mono hQ
    | succ r ih =>
      intro k first found ls H locs hk hf hl hP hD hS hR
      have hk1 : k < 4 := by omega
      have hR : p_firstBut ranks waits served = (if (served &&& ((nI 1) <<< ((nI k) &&& 31))) = 0 then (if found = 0 then (p_firstBut_7 ranks waits served r (k + 1) k (nI 1)) else (if (p_comesBefore ranks waits k first) = 0 then (p_firstBut_7 ranks waits served r (k + 1) first found) else (p_firstBut_7 ranks waits served r (k + 1) k (nI 1)))) else (p_firstBut_7 ranks waits served r (k + 1) first found)) := hR.trans rfl
      refine lv_iload hx hb d_Cores_firstBut_7 (lv_at hl 4 rfl) ?_
      refine lv_iconst (v := nI 4) hx hb d_Cores_firstBut_9 (by decide) ?_
      refine nn_icmp_ge (tgt := 59) hx hb (by omega) (by omega) d_Cores_firstBut_10 (by decide) (fun h => absurd h (by omega)) (fun _ => ?_)
      refine lv_iload_n hx hb d_Cores_firstBut_13 rfl (lv_at hl 1 rfl) ?_
      refine lv_iconst (v := nI 1) hx hb d_Cores_firstBut_14 (by decide) ?_
      refine lv_iload hx hb d_Cores_firstBut_15 (lv_at hl 4 rfl) ?_
      refine lv_ishl hx hb d_Cores_firstBut_17 ?_
      refine lv_iand hx hb d_Cores_firstBut_18 ?_
      refine lv_if_ne (tgt := 26) hx hb d_Cores_firstBut_19 (by decide) (fun h1 => ?_) (fun h1 => ?_)
      · have hR := hR.trans (if_neg h1)
        refine lv_iconst (v := nI 0) hx hb d_Cores_firstBut_26 (by decide) ?_
        refine lv_istore (lv' := [(5, .int (nI 0)), (0, .ref a_cores), (1, .int served), (2, .int (nI first)), (3, .int found), (4, .int (nI k))]) hx hb d_Cores_firstBut_27 hl (by decide) rfl (fun ls hl => ?_)
        refine lv_iload hx hb d_Cores_firstBut_29 (lv_at hl 0 rfl) ?_
        refine lv_if_eq (tgt := 53) hx hb d_Cores_firstBut_31 (by decide) (fun _ => ?_) (fun h => absurd (by decide) h)
        refine lv_iinc (k := 5) (v := nI (k + 1)) (lv' := [(4, .int (nI (k + 1))), (5, .int (nI 0)), (0, .ref a_cores), (1, .int served), (2, .int (nI first)), (3, .int found)]) hx hb d_Cores_firstBut_53 hl rfl (by rw [show Int32.ofInt 1 = nI 1 from by decide, nI_add]) (by decide) rfl (fun ls hl => ?_)
        refine lv_goto (tgt := 7) hx hb d_Cores_firstBut_56 (by decide) ?_
        exact ih (k + 1) first found _ _ _ (by omega) (by omega) (lv_sub hl [2, 3, 4, 5, 0] rfl) hP hD hS hR
      · have hR := hR.trans (if_pos h1)
        refine lv_iconst (v := nI 1) hx hb d_Cores_firstBut_22 (by decide) ?_
        refine lv_goto (tgt := 27) hx hb d_Cores_firstBut_23 (by decide) ?_
        refine lv_istore (lv' := [(5, .int (nI 1)), (0, .ref a_cores), (1, .int served), (2, .int (nI first)), (3, .int found), (4, .int (nI k))]) hx hb d_Cores_firstBut_27 hl (by decide) rfl (fun ls hl => ?_)
        refine lv_iload hx hb d_Cores_firstBut_29 (lv_at hl 0 rfl) ?_
        refine lv_if_eq (tgt := 53) hx hb d_Cores_firstBut_31 (by decide) (fun h => absurd h (by decide)) (fun _ => ?_)
        refine lv_iload_n hx hb d_Cores_firstBut_34 rfl (lv_at hl 4 rfl) ?_
        refine lv_if_eq (tgt := 48) hx hb d_Cores_firstBut_35 (by decide) (fun h2 => ?_) (fun h2 => ?_)
        · have hR := hR.trans (if_pos h2)
          refine lv_iload hx hb d_Cores_firstBut_48 (lv_at hl 5 rfl) ?_
          refine lv_istore_n (lv' := [(2, .int (nI k)), (5, .int (nI 1)), (0, .ref a_cores), (1, .int served), (3, .int found), (4, .int (nI k))]) hx hb d_Cores_firstBut_50 rfl hl (by decide) rfl (fun ls hl => ?_)
          refine lv_iconst (v := nI 1) hx hb d_Cores_firstBut_51 (by decide) ?_
          refine lv_istore_n (lv' := [(3, .int (nI 1)), (2, .int (nI k)), (5, .int (nI 1)), (0, .ref a_cores), (1, .int served), (4, .int (nI k))]) hx hb d_Cores_firstBut_52 rfl hl (by decide) rfl (fun ls hl => ?_)
          refine lv_iinc (k := 5) (v := nI (k + 1)) (lv' := [(4, .int (nI (k + 1))), (3, .int (nI 1)), (2, .int (nI k)), (5, .int (nI 1)), (0, .ref a_cores), (1, .int served)]) hx hb d_Cores_firstBut_53 hl rfl (by rw [show Int32.ofInt 1 = nI 1 from by decide, nI_add]) (by decide) rfl (fun ls hl => ?_)
          refine lv_goto (tgt := 7) hx hb d_Cores_firstBut_56 (by decide) ?_
          exact ih (k + 1) k (nI 1) _ _ _ (by omega) (by omega) (lv_sub hl [4, 5, 2, 1, 0] rfl) hP hD hS hR
        · have hR := hR.trans (if_neg h2)
          refine lv_aload_n hx hb d_Cores_firstBut_38 rfl (lv_at hl 1 rfl) ?_
          refine lv_iload hx hb d_Cores_firstBut_39 (lv_at hl 5 rfl) ?_
          refine lv_iload_n hx hb d_Cores_firstBut_41 rfl (lv_at hl 3 rfl) ?_
          refine ke_i (S := Unit) (fun uu => [(a_cores, .inr (4, [.ref a_steps, .ref a_wishes, .ref a_ranks, .ref a_waits, .ref a_told, .ref a_grants, .int ticksHeld])), (a_ranks, .inl (cI, 4, .inl ranks)), (a_waits, .inl (cI, 4, .inl waits))]) (kr_V (As := [.int (nI k), .int (nI first)]) (b := a_cores) (rest := []) (C := R_Cores) hx hb hml hown hZ (c_comesBefore l zh D cI cZ cJ a_cores a_steps a_wishes a_ranks a_waits a_told a_grants _ ticksHeld ranks waits k first (by omega) (by omega)) (s_Cores_82_Cores_comesBefore zh hZ) (wd zh hZ 507 q_507 rfl) (wd zh hZ 10 q_10 rfl) ⟨rfl, rfl, by decide, by decide⟩ (va_recv hK hP (ci := 4) rfl (q0 := 0) rfl) (hP.sub [0, 1, 2] rfl) hK (hD.sub [0, 1, 2] (by decide) rfl) rfl hl.1 rfl (Nat.le_of_ble_eq_true rfl) d_Cores_firstBut_42 (Nat.zero_le _) (Nat.zero_le _)) hP hD hS hA 3 [0, 1, 2] [] rfl (fun _ => rfl) (fun _ => rfl) (by decide) (by decide) (fun _ => rfl) (fun _ => rfl) rfl (fun rr uu H locs hu hP hD hS => ?_)
          subst hu
          have hP : va_P D classes [(a_cores, .inr (4, [.ref a_steps, .ref a_wishes, .ref a_ranks, .ref a_waits, .ref a_told, .ref a_grants, .int ticksHeld])), (a_ranks, .inl (cI, 4, .inl ranks)), (a_waits, .inl (cI, 4, .inl waits))] H := hP
          have hD : va_D A [(a_cores, .inr (4, [.ref a_steps, .ref a_wishes, .ref a_ranks, .ref a_waits, .ref a_told, .ref a_grants, .int ticksHeld])), (a_ranks, .inl (cI, 4, .inl ranks)), (a_waits, .inl (cI, 4, .inl waits))] := hD
          refine lv_if_eq (tgt := 53) hx hb d_Cores_firstBut_45 (by decide) (fun h3 => ?_) (fun h3 => ?_)
          · have hR := hR.trans (if_pos h3)
            refine lv_iinc (k := 5) (v := nI (k + 1)) (lv' := [(4, .int (nI (k + 1))), (5, .int (nI 1)), (0, .ref a_cores), (1, .int served), (2, .int (nI first)), (3, .int found)]) hx hb d_Cores_firstBut_53 hl rfl (by rw [show Int32.ofInt 1 = nI 1 from by decide, nI_add]) (by decide) rfl (fun ls hl => ?_)
            refine lv_goto (tgt := 7) hx hb d_Cores_firstBut_56 (by decide) ?_
            exact ih (k + 1) first found _ _ _ (by omega) (by omega) (lv_sub hl [2, 3, 4, 5, 0] rfl) hP hD hS hR
          · have hR := hR.trans (if_neg h3)
            refine lv_iload hx hb d_Cores_firstBut_48 (lv_at hl 5 rfl) ?_
            refine lv_istore_n (lv' := [(2, .int (nI k)), (5, .int (nI 1)), (0, .ref a_cores), (1, .int served), (3, .int found), (4, .int (nI k))]) hx hb d_Cores_firstBut_50 rfl hl (by decide) rfl (fun ls hl => ?_)
            refine lv_iconst (v := nI 1) hx hb d_Cores_firstBut_51 (by decide) ?_
            refine lv_istore_n (lv' := [(3, .int (nI 1)), (2, .int (nI k)), (5, .int (nI 1)), (0, .ref a_cores), (1, .int served), (4, .int (nI k))]) hx hb d_Cores_firstBut_52 rfl hl (by decide) rfl (fun ls hl => ?_)
            refine lv_iinc (k := 5) (v := nI (k + 1)) (lv' := [(4, .int (nI (k + 1))), (3, .int (nI 1)), (2, .int (nI k)), (5, .int (nI 1)), (0, .ref a_cores), (1, .int served)]) hx hb d_Cores_firstBut_53 hl rfl (by rw [show Int32.ofInt 1 = nI 1 from by decide, nI_add]) (by decide) rfl (fun ls hl => ?_)
            refine lv_goto (tgt := 7) hx hb d_Cores_firstBut_56 (by decide) ?_
            exact ih (k + 1) k (nI 1) _ _ _ (by omega) (by omega) (lv_sub hl [4, 5, 2, 1, 0] rfl) hP hD hS hR
  exact key7 4 0 0 (nI 0) _ _ _ (by omega) (by omega) (lv_sub hl [3, 4, 2, 1, 0] rfl) hP hD hS hR
theorem firstBut_lt_7 (ranks waits : Nat → Int32) (served : Int32) : ∀ (r k first : Nat) (found : Int32), k + r = 4 → first < 4 → p_firstBut_7 ranks waits served r k first found < 4 := by
  intro r
  induction r with
  | zero => intro k first found _ h; exact h
  | succ r ih =>
    intro k first found hk h
    unfold p_firstBut_7
    repeat' split
    all_goals exact ih _ _ _ (by omega) (by omega)
theorem firstBut_lt (ranks waits : Nat → Int32) (served : Int32) : p_firstBut ranks waits served < 4 := firstBut_lt_7 ranks waits served 4 0 0 _ (by omega) (by omega)
def p_endWishes_4 (steps : Nat → Int32) : Nat → Nat → Int32 → (Nat → Int32) → (Nat → Int32) → Int32 × (Nat → Int32) × (Nat → Int32)
  | 0, k, shorted, wis, wai => (shorted, wis, wai)
  | r + 1, k, shorted, wis, wai => if (wis k) ≤ (steps k) then (p_endWishes_4 steps r (k + 1) shorted (upd wis k (-1)) (upd wai k (nI 0))) else (p_endWishes_4 steps r (k + 1) (shorted ||| ((nI 1) <<< ((nI k) &&& 31))) (upd wis k (-1)) (upd wai k ((wai k) + (nI 1))))
def p_endWishes (steps : Nat → Int32) (wishes : Nat → Int32) (waits : Nat → Int32) : Int32 × (Nat → Int32) × (Nat → Int32) := p_endWishes_4 steps 4 0 (nI 0) wishes waits
set_option maxHeartbeats 1000000 in
set_option maxRecDepth 100000 in
theorem c_endWishes (l : Launch) {z : State} {za : Array Value} (zh : ∀ w ∈ lw_tbl, w.before za z = true) (D : va_G) (cI cZ cJ : ClassId) (a_cores : Nat) (a_steps : Nat) (a_wishes : Nat) (a_ranks : Nat) (a_waits : Nat) (a_told : Nat) (a_grants : Nat) (sz : Nat) (ticksHeld : Int32) (steps : Nat → Int32) (wishes : Nat → Int32) (waits : Nat → Int32) :
    Met l y_Cores_endWishes [Cond.code y_Cores_endWishes prog_3_method_11_code 3 (some .int)] { frames := 0, cells := 0, slots := 0, locals := 0 } (va_Pc [.ref a_cores] (PreW z D classes cI cZ cJ sz [(a_cores, .inr (4, [.ref a_steps, .ref a_wishes, .ref a_ranks, .ref a_waits, .ref a_told, .ref a_grants, .int ticksHeld])), (a_steps, .inl (cI, 4, .inl steps)), (a_wishes, .inl (cI, 4, .inl wishes)), (a_waits, .inl (cI, 4, .inl waits))])) (va_Qi (fun (r : Int32) (u : (Nat → Int32) × (Nat → Int32)) => (r, u) = p_endWishes steps wishes waits) (fun u => PostW D classes (va_A [(a_cores, .inr (4, [.ref a_steps, .ref a_wishes, .ref a_ranks, .ref a_waits, .ref a_told, .ref a_grants, .int ticksHeld])), (a_steps, .inl (cI, 4, .inl steps)), (a_wishes, .inl (cI, 4, .inl wishes)), (a_waits, .inl (cI, 4, .inl waits))] sz) [(a_cores, .inr (4, [.ref a_steps, .ref a_wishes, .ref a_ranks, .ref a_waits, .ref a_told, .ref a_grants, .int ticksHeld])), (a_steps, .inl (cI, 4, .inl steps)), (a_wishes, .inl (cI, 4, .inl u.1)), (a_waits, .inl (cI, 4, .inl u.2))]) (va_A [(a_cores, .inr (4, [.ref a_steps, .ref a_wishes, .ref a_ranks, .ref a_waits, .ref a_told, .ref a_grants, .int ticksHeld])), (a_steps, .inl (cI, 4, .inl steps)), (a_wishes, .inl (cI, 4, .inl wishes)), (a_waits, .inl (cI, 4, .inl waits))] sz)) 0 0 (va_A [(a_cores, .inr (4, [.ref a_steps, .ref a_wishes, .ref a_ranks, .ref a_waits, .ref a_told, .ref a_grants, .int ticksHeld])), (a_steps, .inl (cI, 4, .inl steps)), (a_wishes, .inl (cI, 4, .inl wishes)), (a_waits, .inl (cI, 4, .inl waits))] sz) := by
  refine Met.ofQ (cc := prog_3_method_11_code) (maxL := 3) (ret := (some .int)) (by decide +kernel) rfl ?_
  intro p e s m args below meth c s₁ Q B hml hv hQ
  obtain ⟨rfl, rfl, hZ, hP, hK, hD0⟩ := hv
  have hx := B.exec
  have hb := B.bytes
  have hr := B.returns
  have hown : s.vm.findClass R_Cores = some m.cls := findClass_of_methodNamed B.named
  have hlocks := B.notSynchronized
  clear B
  have hD := hD0.self (sz := s.heap.size)
  generalize hAe : va_A [(a_cores, .inr (4, [.ref a_steps, .ref a_wishes, .ref a_ranks, .ref a_waits, .ref a_told, .ref a_grants, .int ticksHeld])), (a_steps, .inl (cI, 4, .inl steps)), (a_wishes, .inl (cI, 4, .inl wishes)), (a_waits, .inl (cI, 4, .inl waits))] s.heap.size = A at hD hQ
  have hA : ∀ q : Nat, s.heap.size ≤ q → A q := fun q h => by rw [← hAe]; exact Or.inr h
  clear hAe hD0
  have hS : va_S A s.heap s.heap [] := va_S.rf
  have hl := lv_entry ([.ref a_cores]) (n := 3) (Nat.le_of_ble_eq_true rfl)
  rw [lg_entry_eq]
  generalize (lg_sl ([.ref a_cores]) ++ List.replicate (3 - (lg_sl ([.ref a_cores])).length) Slot.unset).toArray = ls at hl ⊢
  have hl : lv_has ls 3 [(0, .ref a_cores)] := hl
  have hR : p_endWishes steps wishes waits = (p_endWishes_4 steps 4 0 (nI 0) wishes waits) := rfl
  refine lv_iconst (v := nI 0) hx hb d_Cores_endWishes_0 (by decide) ?_
  refine lv_istore_n (lv' := [(1, .int (nI 0)), (0, .ref a_cores)]) hx hb d_Cores_endWishes_1 rfl hl (by decide) rfl (fun ls hl => ?_)
  refine lv_iconst (v := nI 0) hx hb d_Cores_endWishes_2 (by decide) ?_
  refine lv_istore_n (lv' := [(2, .int (nI 0)), (1, .int (nI 0)), (0, .ref a_cores)]) hx hb d_Cores_endWishes_3 rfl hl (by decide) rfl (fun ls hl => ?_)
  have key4 : ∀ (r : Nat) (k : Nat) (shorted : Int32) (wis : Nat → Int32) (wai : Nat → Int32) (ls : Array Slot) (H : Heap) (locs : List Loc), k + r = 4 → lv_has ls 3 [(0, .ref a_cores), (1, .int shorted), (2, .int (nI k))] → va_P D classes [(a_cores, .inr (4, [.ref a_steps, .ref a_wishes, .ref a_ranks, .ref a_waits, .ref a_told, .ref a_grants, .int ticksHeld])), (a_steps, .inl (cI, 4, .inl steps)), (a_wishes, .inl (cI, 4, .inl wis)), (a_waits, .inl (cI, 4, .inl wai))] H → va_D A [(a_cores, .inr (4, [.ref a_steps, .ref a_wishes, .ref a_ranks, .ref a_waits, .ref a_told, .ref a_grants, .int ticksHeld])), (a_steps, .inl (cI, 4, .inl steps)), (a_wishes, .inl (cI, 4, .inl wis)), (a_waits, .inl (cI, 4, .inl wai))] → va_S A s.heap H locs → p_endWishes steps wishes waits = p_endWishes_4 steps r k shorted wis wai → W p l e { frames := 0, cells := 0, slots := 0, locals := 0 } s m ([.ref a_cores]).toArray below meth c H locs 0 0 Q (F0 m 4 ls []) := by
    intro r
    induction r with
    | zero =>
      intro k shorted wis wai ls H locs hk hl hP hD hS hR
      obtain rfl : k = 4 := by omega
      have hR : p_endWishes steps wishes waits = ((shorted, wis, wai)) := hR.trans rfl
      refine lv_iload_n hx hb d_Cores_endWishes_4 rfl (lv_at hl 2 rfl) ?_
      refine lv_iconst (v := nI 4) hx hb d_Cores_endWishes_5 (by decide) ?_
      refine nn_icmp_ge (tgt := 63) hx hb (by omega) (by omega) d_Cores_endWishes_6 (by decide) (fun _ => ?_) (fun h => absurd (by omega) h)
      refine lv_iload_n hx hb d_Cores_endWishes_63 rfl (lv_at hl 1 rfl) ?_
      exact (W.iret (v := shorted) hx hb hr (fun t9 ht hW => ⟨⟨shorted, (wis, wai), rfl, hR.symm, by rw [ht]; exact hP, hD⟩, hS.F ht⟩) hS.2.2 d_Cores_endWishes_64).mono hQ
    | succ r ih =>
      intro k shorted wis wai ls H locs hk hl hP hD hS hR
      have hk1 : k < 4 := by omega
      have hR : p_endWishes steps wishes waits = (if (wis k) ≤ (steps k) then (p_endWishes_4 steps r (k + 1) shorted (upd wis k (-1)) (upd wai k (nI 0))) else (p_endWishes_4 steps r (k + 1) (shorted ||| ((nI 1) <<< ((nI k) &&& 31))) (upd wis k (-1)) (upd wai k ((wai k) + (nI 1))))) := hR.trans rfl
      refine lv_iload_n hx hb d_Cores_endWishes_4 rfl (lv_at hl 2 rfl) ?_
      refine lv_iconst (v := nI 4) hx hb d_Cores_endWishes_5 (by decide) ?_
      refine nn_icmp_ge (tgt := 63) hx hb (by omega) (by omega) d_Cores_endWishes_6 (by decide) (fun h => absurd h (by omega)) (fun _ => ?_)
      refine lv_aload_n hx hb d_Cores_endWishes_9 rfl (lv_at hl 0 rfl) ?_
      refine va_get (D := D) (ci := 4) (v := .ref a_steps) (C := R_Cores) (T := F_Cores) (N := 7) hx hb (u_Cores zh hZ) (fun _ h => h) hown hK hP 0 rfl rfl 0 (by decide) (wd zh hZ 177 q_177 rfl) (fun _ h9 => h9) rfl d_Cores_endWishes_10 ?_
      refine lv_iload_n hx hb d_Cores_endWishes_13 rfl (lv_at hl 2 rfl) ?_
      refine nn_iald hx hb hK hP 1 0 rfl rfl (j := k) (by omega) (by decide) d_Cores_endWishes_14 ?_
      refine lv_aload_n hx hb d_Cores_endWishes_15 rfl (lv_at hl 0 rfl) ?_
      refine va_get (D := D) (ci := 4) (v := .ref a_wishes) (C := R_Cores) (T := F_Cores) (N := 7) hx hb (u_Cores zh hZ) (fun _ h => h) hown hK hP 0 rfl rfl 1 (by decide) (wd zh hZ 180 q_180 rfl) (fun _ h9 => h9) rfl d_Cores_endWishes_16 ?_
      refine lv_iload_n hx hb d_Cores_endWishes_19 rfl (lv_at hl 2 rfl) ?_
      refine nn_iald hx hb hK hP 2 0 rfl rfl (j := k) (by omega) (by decide) d_Cores_endWishes_20 ?_
      refine lv_icmp_ge (tgt := 43) hx hb d_Cores_endWishes_21 (by decide) (fun h1 => ?_) (fun h1 => ?_)
      · have hR := hR.trans (if_pos h1)
        refine lv_aload_n hx hb d_Cores_endWishes_43 rfl (lv_at hl 0 rfl) ?_
        refine va_get (D := D) (ci := 4) (v := .ref a_waits) (C := R_Cores) (T := F_Cores) (N := 7) hx hb (u_Cores zh hZ) (fun _ h => h) hown hK hP 0 rfl rfl 3 (by decide) (wd zh hZ 184 q_184 rfl) (fun _ h9 => h9) rfl d_Cores_endWishes_44 ?_
        refine lv_iload_n hx hb d_Cores_endWishes_47 rfl (lv_at hl 2 rfl) ?_
        refine lv_iconst (v := nI 0) hx hb d_Cores_endWishes_48 (by decide) ?_
        refine nn_iast hx hb hK hP hD hS 3 0 rfl rfl (j := k) (by omega) (by decide) d_Cores_endWishes_49 (fun H locs hP hD hS => ?_)
        have hP : va_P D classes [(a_cores, .inr (4, [.ref a_steps, .ref a_wishes, .ref a_ranks, .ref a_waits, .ref a_told, .ref a_grants, .int ticksHeld])), (a_steps, .inl (cI, 4, .inl steps)), (a_wishes, .inl (cI, 4, .inl wis)), (a_waits, .inl (cI, 4, .inl (upd wai k (nI 0))))] H := hP
        have hD : va_D A [(a_cores, .inr (4, [.ref a_steps, .ref a_wishes, .ref a_ranks, .ref a_waits, .ref a_told, .ref a_grants, .int ticksHeld])), (a_steps, .inl (cI, 4, .inl steps)), (a_wishes, .inl (cI, 4, .inl wis)), (a_waits, .inl (cI, 4, .inl (upd wai k (nI 0))))] := hD
        refine lv_aload_n hx hb d_Cores_endWishes_50 rfl (lv_at hl 0 rfl) ?_
        refine va_get (D := D) (ci := 4) (v := .ref a_wishes) (C := R_Cores) (T := F_Cores) (N := 7) hx hb (u_Cores zh hZ) (fun _ h => h) hown hK hP 0 rfl rfl 1 (by decide) (wd zh hZ 180 q_180 rfl) (fun _ h9 => h9) rfl d_Cores_endWishes_51 ?_
        refine lv_iload_n hx hb d_Cores_endWishes_54 rfl (lv_at hl 2 rfl) ?_
        refine lv_iconst (v := (-1)) hx hb d_Cores_endWishes_55 (by decide) ?_
        refine nn_iast hx hb hK hP hD hS 2 0 rfl rfl (j := k) (by omega) (by decide) d_Cores_endWishes_56 (fun H locs hP hD hS => ?_)
        have hP : va_P D classes [(a_cores, .inr (4, [.ref a_steps, .ref a_wishes, .ref a_ranks, .ref a_waits, .ref a_told, .ref a_grants, .int ticksHeld])), (a_steps, .inl (cI, 4, .inl steps)), (a_wishes, .inl (cI, 4, .inl (upd wis k (-1)))), (a_waits, .inl (cI, 4, .inl (upd wai k (nI 0))))] H := hP
        have hD : va_D A [(a_cores, .inr (4, [.ref a_steps, .ref a_wishes, .ref a_ranks, .ref a_waits, .ref a_told, .ref a_grants, .int ticksHeld])), (a_steps, .inl (cI, 4, .inl steps)), (a_wishes, .inl (cI, 4, .inl (upd wis k (-1)))), (a_waits, .inl (cI, 4, .inl (upd wai k (nI 0))))] := hD
        refine lv_iinc (k := 2) (v := nI (k + 1)) (lv' := [(2, .int (nI (k + 1))), (0, .ref a_cores), (1, .int shorted)]) hx hb d_Cores_endWishes_57 hl rfl (by rw [show Int32.ofInt 1 = nI 1 from by decide, nI_add]) (by decide) rfl (fun ls hl => ?_)
        refine lv_goto (tgt := 4) hx hb d_Cores_endWishes_60 (by decide) ?_
        exact ih (k + 1) shorted (upd wis k (-1)) (upd wai k (nI 0)) _ _ _ (by omega) (lv_sub hl [1, 2, 0] rfl) hP hD hS hR
      · have hR := hR.trans (if_neg h1)
        refine lv_iload_n hx hb d_Cores_endWishes_24 rfl (lv_at hl 1 rfl) ?_
        refine lv_iconst (v := nI 1) hx hb d_Cores_endWishes_25 (by decide) ?_
        refine lv_iload_n hx hb d_Cores_endWishes_26 rfl (lv_at hl 2 rfl) ?_
        refine lv_ishl hx hb d_Cores_endWishes_27 ?_
        refine lv_ior hx hb d_Cores_endWishes_28 ?_
        refine lv_istore_n (lv' := [(1, .int (shorted ||| ((nI 1) <<< ((nI k) &&& 31)))), (0, .ref a_cores), (2, .int (nI k))]) hx hb d_Cores_endWishes_29 rfl hl (by decide) rfl (fun ls hl => ?_)
        refine lv_aload_n hx hb d_Cores_endWishes_30 rfl (lv_at hl 1 rfl) ?_
        refine va_get (D := D) (ci := 4) (v := .ref a_waits) (C := R_Cores) (T := F_Cores) (N := 7) hx hb (u_Cores zh hZ) (fun _ h => h) hown hK hP 0 rfl rfl 3 (by decide) (wd zh hZ 184 q_184 rfl) (fun _ h9 => h9) rfl d_Cores_endWishes_31 ?_
        refine lv_iload_n hx hb d_Cores_endWishes_34 rfl (lv_at hl 2 rfl) ?_
        refine lv_dup2_11 hx hb d_Cores_endWishes_35 rfl rfl ?_
        refine nn_iald hx hb hK hP 3 0 rfl rfl (j := k) (by omega) (by decide) d_Cores_endWishes_36 ?_
        refine lv_iconst (v := nI 1) hx hb d_Cores_endWishes_37 (by decide) ?_
        refine lv_iadd hx hb d_Cores_endWishes_38 ?_
        refine nn_iast hx hb hK hP hD hS 3 0 rfl rfl (j := k) (by omega) (by decide) d_Cores_endWishes_39 (fun H locs hP hD hS => ?_)
        have hP : va_P D classes [(a_cores, .inr (4, [.ref a_steps, .ref a_wishes, .ref a_ranks, .ref a_waits, .ref a_told, .ref a_grants, .int ticksHeld])), (a_steps, .inl (cI, 4, .inl steps)), (a_wishes, .inl (cI, 4, .inl wis)), (a_waits, .inl (cI, 4, .inl (upd wai k ((wai k) + (nI 1)))))] H := hP
        have hD : va_D A [(a_cores, .inr (4, [.ref a_steps, .ref a_wishes, .ref a_ranks, .ref a_waits, .ref a_told, .ref a_grants, .int ticksHeld])), (a_steps, .inl (cI, 4, .inl steps)), (a_wishes, .inl (cI, 4, .inl wis)), (a_waits, .inl (cI, 4, .inl (upd wai k ((wai k) + (nI 1)))))] := hD
        refine lv_goto (tgt := 50) hx hb d_Cores_endWishes_40 (by decide) ?_
        refine lv_aload_n hx hb d_Cores_endWishes_50 rfl (lv_at hl 1 rfl) ?_
        refine va_get (D := D) (ci := 4) (v := .ref a_wishes) (C := R_Cores) (T := F_Cores) (N := 7) hx hb (u_Cores zh hZ) (fun _ h => h) hown hK hP 0 rfl rfl 1 (by decide) (wd zh hZ 180 q_180 rfl) (fun _ h9 => h9) rfl d_Cores_endWishes_51 ?_
        refine lv_iload_n hx hb d_Cores_endWishes_54 rfl (lv_at hl 2 rfl) ?_
        refine lv_iconst (v := (-1)) hx hb d_Cores_endWishes_55 (by decide) ?_
        refine nn_iast hx hb hK hP hD hS 2 0 rfl rfl (j := k) (by omega) (by decide) d_Cores_endWishes_56 (fun H locs hP hD hS => ?_)
        have hP : va_P D classes [(a_cores, .inr (4, [.ref a_steps, .ref a_wishes, .ref a_ranks, .ref a_waits, .ref a_told, .ref a_grants, .int ticksHeld])), (a_steps, .inl (cI, 4, .inl steps)), (a_wishes, .inl (cI, 4, .inl (upd wis k (-1)))), (a_waits, .inl (cI, 4, .inl (upd wai k ((wai k) + (nI 1)))))] H := hP
        have hD : va_D A [(a_cores, .inr (4, [.ref a_steps, .ref a_wishes, .ref a_ranks, .ref a_waits, .ref a_told, .ref a_grants, .int ticksHeld])), (a_steps, .inl (cI, 4, .inl steps)), (a_wishes, .inl (cI, 4, .inl (upd wis k (-1)))), (a_waits, .inl (cI, 4, .inl (upd wai k ((wai k) + (nI 1)))))] := hD
        refine lv_iinc (k := 2) (v := nI (k + 1)) (lv' := [(2, .int (nI (k + 1))), (1, .int (shorted ||| ((nI 1) <<< ((nI k) &&& 31)))), (0, .ref a_cores)]) hx hb d_Cores_endWishes_57 hl rfl (by rw [show Int32.ofInt 1 = nI 1 from by decide, nI_add]) (by decide) rfl (fun ls hl => ?_)
        refine lv_goto (tgt := 4) hx hb d_Cores_endWishes_60 (by decide) ?_
        exact ih (k + 1) (shorted ||| ((nI 1) <<< ((nI k) &&& 31))) (upd wis k (-1)) (upd wai k ((wai k) + (nI 1))) _ _ _ (by omega) (lv_sub hl [2, 1, 0] rfl) hP hD hS hR
  exact key4 4 0 (nI 0) wishes waits _ _ _ (by omega) (lv_sub hl [2, 1, 0] rfl) hP hD hS hR
def p_coresBegin (steps : Nat → Int32) (wishes : Nat → Int32) (ranks : Nat → Int32) (waits : Nat → Int32) (told : Nat → Int32) : (Nat → Int32) × (Nat → Int32) × (Nat → Int32) × (Nat → Int32) × (Nat → Int32) × Int32 := ap1 (p_fill4 steps (nI 0)) (fun (u1_0 : Nat → Int32) => (ap1 (p_fill4 wishes (-1)) (fun (u2_0 : Nat → Int32) => (ap1 (p_fill4 ranks (nI 0)) (fun (u3_0 : Nat → Int32) => (ap1 (p_fill4 waits (nI 0)) (fun (u4_0 : Nat → Int32) => (ap1 (p_fill4 told (nI 0)) (fun (u5_0 : Nat → Int32) => ((u1_0, u2_0, u3_0, u4_0, u5_0, nI 0)))))))))))
set_option maxHeartbeats 1000000 in
set_option maxRecDepth 100000 in
theorem c_coresBegin (l : Launch) {z : State} {za : Array Value} (zh : ∀ w ∈ lw_tbl, w.before za z = true) (D : va_G) (cI cZ cJ : ClassId) (a_cores : Nat) (a_steps : Nat) (a_wishes : Nat) (a_ranks : Nat) (a_waits : Nat) (a_told : Nat) (a_grants : Nat) (sz : Nat) (ticksHeld : Int32) (steps : Nat → Int32) (wishes : Nat → Int32) (ranks : Nat → Int32) (waits : Nat → Int32) (told : Nat → Int32) :
    Met l y_Cores_begin [Cond.code y_Cores_begin prog_3_method_2_code 1 none] { frames := 1, cells := 0, slots := 0, locals := 23 } (va_Pc [.ref a_cores] (PreW z D classes cI cZ cJ sz [(a_cores, .inr (4, [.ref a_steps, .ref a_wishes, .ref a_ranks, .ref a_waits, .ref a_told, .ref a_grants, .int ticksHeld])), (a_steps, .inl (cI, 4, .inl steps)), (a_wishes, .inl (cI, 4, .inl wishes)), (a_ranks, .inl (cI, 4, .inl ranks)), (a_waits, .inl (cI, 4, .inl waits)), (a_told, .inl (cI, 4, .inl told))])) (va_Qv (fun (u : (Nat → Int32) × (Nat → Int32) × (Nat → Int32) × (Nat → Int32) × (Nat → Int32) × Int32) => u = p_coresBegin steps wishes ranks waits told) (fun u => PostW D classes (va_A [(a_cores, .inr (4, [.ref a_steps, .ref a_wishes, .ref a_ranks, .ref a_waits, .ref a_told, .ref a_grants, .int ticksHeld])), (a_steps, .inl (cI, 4, .inl steps)), (a_wishes, .inl (cI, 4, .inl wishes)), (a_ranks, .inl (cI, 4, .inl ranks)), (a_waits, .inl (cI, 4, .inl waits)), (a_told, .inl (cI, 4, .inl told))] sz) [(a_cores, .inr (4, [.ref a_steps, .ref a_wishes, .ref a_ranks, .ref a_waits, .ref a_told, .ref a_grants, .int u.2.2.2.2.2])), (a_steps, .inl (cI, 4, .inl u.1)), (a_wishes, .inl (cI, 4, .inl u.2.1)), (a_ranks, .inl (cI, 4, .inl u.2.2.1)), (a_waits, .inl (cI, 4, .inl u.2.2.2.1)), (a_told, .inl (cI, 4, .inl u.2.2.2.2.1))]) (va_A [(a_cores, .inr (4, [.ref a_steps, .ref a_wishes, .ref a_ranks, .ref a_waits, .ref a_told, .ref a_grants, .int ticksHeld])), (a_steps, .inl (cI, 4, .inl steps)), (a_wishes, .inl (cI, 4, .inl wishes)), (a_ranks, .inl (cI, 4, .inl ranks)), (a_waits, .inl (cI, 4, .inl waits)), (a_told, .inl (cI, 4, .inl told))] sz)) 0 0 (va_A [(a_cores, .inr (4, [.ref a_steps, .ref a_wishes, .ref a_ranks, .ref a_waits, .ref a_told, .ref a_grants, .int ticksHeld])), (a_steps, .inl (cI, 4, .inl steps)), (a_wishes, .inl (cI, 4, .inl wishes)), (a_ranks, .inl (cI, 4, .inl ranks)), (a_waits, .inl (cI, 4, .inl waits)), (a_told, .inl (cI, 4, .inl told))] sz) := by
  refine Met.ofQ (cc := prog_3_method_2_code) (maxL := 1) (ret := none) (by decide +kernel) rfl ?_
  intro p e s m args below meth c s₁ Q B hml hv hQ
  obtain ⟨rfl, rfl, hZ, hP, hK, hD0⟩ := hv
  have hx := B.exec
  have hb := B.bytes
  have hr := B.returns
  have hown : s.vm.findClass R_Cores = some m.cls := findClass_of_methodNamed B.named
  have hlocks := B.notSynchronized
  clear B
  have hD := hD0.self (sz := s.heap.size)
  generalize hAe : va_A [(a_cores, .inr (4, [.ref a_steps, .ref a_wishes, .ref a_ranks, .ref a_waits, .ref a_told, .ref a_grants, .int ticksHeld])), (a_steps, .inl (cI, 4, .inl steps)), (a_wishes, .inl (cI, 4, .inl wishes)), (a_ranks, .inl (cI, 4, .inl ranks)), (a_waits, .inl (cI, 4, .inl waits)), (a_told, .inl (cI, 4, .inl told))] s.heap.size = A at hD hQ
  have hA : ∀ q : Nat, s.heap.size ≤ q → A q := fun q h => by rw [← hAe]; exact Or.inr h
  clear hAe hD0
  have hS : va_S A s.heap s.heap [] := va_S.rf
  have hl := lv_entry ([.ref a_cores]) (n := 1) (Nat.le_of_ble_eq_true rfl)
  rw [lg_entry_eq]
  generalize (lg_sl ([.ref a_cores]) ++ List.replicate (1 - (lg_sl ([.ref a_cores])).length) Slot.unset).toArray = ls at hl ⊢
  have hl : lv_has ls 1 [(0, .ref a_cores)] := hl
  have hR : p_coresBegin steps wishes ranks waits told = (ap1 (p_fill4 steps (nI 0)) (fun (u1_0 : Nat → Int32) => (ap1 (p_fill4 wishes (-1)) (fun (u2_0 : Nat → Int32) => (ap1 (p_fill4 ranks (nI 0)) (fun (u3_0 : Nat → Int32) => (ap1 (p_fill4 waits (nI 0)) (fun (u4_0 : Nat → Int32) => (ap1 (p_fill4 told (nI 0)) (fun (u5_0 : Nat → Int32) => ((u1_0, u2_0, u3_0, u4_0, u5_0, nI 0)))))))))))) := rfl
  refine lv_aload_n hx hb d_Cores_begin_0 rfl (lv_at hl 0 rfl) ?_
  refine va_get (D := D) (ci := 4) (v := .ref a_steps) (C := R_Cores) (T := F_Cores) (N := 7) hx hb (u_Cores zh hZ) (fun _ h => h) hown hK hP 0 rfl rfl 0 (by decide) (wd zh hZ 177 q_177 rfl) (fun _ h9 => h9) rfl d_Cores_begin_1 ?_
  refine lv_iconst (v := nI 0) hx hb d_Cores_begin_4 (by decide) ?_
  refine ke_v (S := (Nat → Int32)) (fun uu => [(a_cores, .inr (4, [.ref a_steps, .ref a_wishes, .ref a_ranks, .ref a_waits, .ref a_told, .ref a_grants, .int ticksHeld])), (a_steps, .inl (cI, 4, .inl uu)), (a_wishes, .inl (cI, 4, .inl wishes)), (a_ranks, .inl (cI, 4, .inl ranks)), (a_waits, .inl (cI, 4, .inl waits)), (a_told, .inl (cI, 4, .inl told))]) (kr_S (As := [.ref a_steps, .int (nI 0)]) (rest := []) hx hb hml hown hZ (c_fill4 l zh D cI cZ cJ a_steps _ steps (nI 0)) (s_Cores_30_Arrays_fill zh hZ) (wd zh hZ 62 q_62 rfl) ⟨rfl, rfl, by decide, by decide⟩ (hP.sub [1] rfl) hK (hD.sub [1] (by decide) rfl) rfl hl.1 rfl (Nat.le_of_ble_eq_true rfl) d_Cores_begin_5 (Nat.zero_le _) (Nat.zero_le _)) hP hD hS hA 6 [1] [0, 2, 3, 4, 5] rfl (fun _ => rfl) (fun _ => rfl) (by decide) (by decide) (fun _ => rfl) (fun _ => rfl) rfl (fun uu H locs hu hP hD hS => ?_)
  obtain ⟨u1_0, rfl⟩ : ∃ z9, z9 = uu := ⟨_, rfl⟩
  have hu : (u1_0) = (p_fill4 steps (nI 0)) := hu
  have hR := kc_ap1 (fun (u1_0 : Nat → Int32) => (ap1 (p_fill4 wishes (-1)) (fun (u2_0 : Nat → Int32) => (ap1 (p_fill4 ranks (nI 0)) (fun (u3_0 : Nat → Int32) => (ap1 (p_fill4 waits (nI 0)) (fun (u4_0 : Nat → Int32) => (ap1 (p_fill4 told (nI 0)) (fun (u5_0 : Nat → Int32) => ((u1_0, u2_0, u3_0, u4_0, u5_0, nI 0))))))))))) hu hR
  have hP : va_P D classes [(a_cores, .inr (4, [.ref a_steps, .ref a_wishes, .ref a_ranks, .ref a_waits, .ref a_told, .ref a_grants, .int ticksHeld])), (a_steps, .inl (cI, 4, .inl u1_0)), (a_wishes, .inl (cI, 4, .inl wishes)), (a_ranks, .inl (cI, 4, .inl ranks)), (a_waits, .inl (cI, 4, .inl waits)), (a_told, .inl (cI, 4, .inl told))] H := hP
  have hD : va_D A [(a_cores, .inr (4, [.ref a_steps, .ref a_wishes, .ref a_ranks, .ref a_waits, .ref a_told, .ref a_grants, .int ticksHeld])), (a_steps, .inl (cI, 4, .inl u1_0)), (a_wishes, .inl (cI, 4, .inl wishes)), (a_ranks, .inl (cI, 4, .inl ranks)), (a_waits, .inl (cI, 4, .inl waits)), (a_told, .inl (cI, 4, .inl told))] := hD
  refine lv_aload_n hx hb d_Cores_begin_8 rfl (lv_at hl 0 rfl) ?_
  refine va_get (D := D) (ci := 4) (v := .ref a_wishes) (C := R_Cores) (T := F_Cores) (N := 7) hx hb (u_Cores zh hZ) (fun _ h => h) hown hK hP 0 rfl rfl 1 (by decide) (wd zh hZ 180 q_180 rfl) (fun _ h9 => h9) rfl d_Cores_begin_9 ?_
  refine lv_iconst (v := (-1)) hx hb d_Cores_begin_12 (by decide) ?_
  refine ke_v (S := (Nat → Int32)) (fun uu => [(a_cores, .inr (4, [.ref a_steps, .ref a_wishes, .ref a_ranks, .ref a_waits, .ref a_told, .ref a_grants, .int ticksHeld])), (a_steps, .inl (cI, 4, .inl u1_0)), (a_wishes, .inl (cI, 4, .inl uu)), (a_ranks, .inl (cI, 4, .inl ranks)), (a_waits, .inl (cI, 4, .inl waits)), (a_told, .inl (cI, 4, .inl told))]) (kr_S (As := [.ref a_wishes, .int (-1)]) (rest := []) hx hb hml hown hZ (c_fill4 l zh D cI cZ cJ a_wishes _ wishes (-1)) (s_Cores_30_Arrays_fill zh hZ) (wd zh hZ 62 q_62 rfl) ⟨rfl, rfl, by decide, by decide⟩ (hP.sub [2] rfl) hK (hD.sub [2] (by decide) rfl) rfl hl.1 rfl (Nat.le_of_ble_eq_true rfl) d_Cores_begin_13 (Nat.zero_le _) (Nat.zero_le _)) hP hD hS hA 6 [2] [0, 1, 3, 4, 5] rfl (fun _ => rfl) (fun _ => rfl) (by decide) (by decide) (fun _ => rfl) (fun _ => rfl) rfl (fun uu H locs hu hP hD hS => ?_)
  obtain ⟨u2_0, rfl⟩ : ∃ z9, z9 = uu := ⟨_, rfl⟩
  have hu : (u2_0) = (p_fill4 wishes (-1)) := hu
  have hR := kc_ap1 (fun (u2_0 : Nat → Int32) => (ap1 (p_fill4 ranks (nI 0)) (fun (u3_0 : Nat → Int32) => (ap1 (p_fill4 waits (nI 0)) (fun (u4_0 : Nat → Int32) => (ap1 (p_fill4 told (nI 0)) (fun (u5_0 : Nat → Int32) => ((u1_0, u2_0, u3_0, u4_0, u5_0, nI 0))))))))) hu hR
  have hP : va_P D classes [(a_cores, .inr (4, [.ref a_steps, .ref a_wishes, .ref a_ranks, .ref a_waits, .ref a_told, .ref a_grants, .int ticksHeld])), (a_steps, .inl (cI, 4, .inl u1_0)), (a_wishes, .inl (cI, 4, .inl u2_0)), (a_ranks, .inl (cI, 4, .inl ranks)), (a_waits, .inl (cI, 4, .inl waits)), (a_told, .inl (cI, 4, .inl told))] H := hP
  have hD : va_D A [(a_cores, .inr (4, [.ref a_steps, .ref a_wishes, .ref a_ranks, .ref a_waits, .ref a_told, .ref a_grants, .int ticksHeld])), (a_steps, .inl (cI, 4, .inl u1_0)), (a_wishes, .inl (cI, 4, .inl u2_0)), (a_ranks, .inl (cI, 4, .inl ranks)), (a_waits, .inl (cI, 4, .inl waits)), (a_told, .inl (cI, 4, .inl told))] := hD
  refine lv_aload_n hx hb d_Cores_begin_16 rfl (lv_at hl 0 rfl) ?_
  refine va_get (D := D) (ci := 4) (v := .ref a_ranks) (C := R_Cores) (T := F_Cores) (N := 7) hx hb (u_Cores zh hZ) (fun _ h => h) hown hK hP 0 rfl rfl 2 (by decide) (wd zh hZ 182 q_182 rfl) (fun _ h9 => h9) rfl d_Cores_begin_17 ?_
  refine lv_iconst (v := nI 0) hx hb d_Cores_begin_20 (by decide) ?_
  refine ke_v (S := (Nat → Int32)) (fun uu => [(a_cores, .inr (4, [.ref a_steps, .ref a_wishes, .ref a_ranks, .ref a_waits, .ref a_told, .ref a_grants, .int ticksHeld])), (a_steps, .inl (cI, 4, .inl u1_0)), (a_wishes, .inl (cI, 4, .inl u2_0)), (a_ranks, .inl (cI, 4, .inl uu)), (a_waits, .inl (cI, 4, .inl waits)), (a_told, .inl (cI, 4, .inl told))]) (kr_S (As := [.ref a_ranks, .int (nI 0)]) (rest := []) hx hb hml hown hZ (c_fill4 l zh D cI cZ cJ a_ranks _ ranks (nI 0)) (s_Cores_30_Arrays_fill zh hZ) (wd zh hZ 62 q_62 rfl) ⟨rfl, rfl, by decide, by decide⟩ (hP.sub [3] rfl) hK (hD.sub [3] (by decide) rfl) rfl hl.1 rfl (Nat.le_of_ble_eq_true rfl) d_Cores_begin_21 (Nat.zero_le _) (Nat.zero_le _)) hP hD hS hA 6 [3] [0, 1, 2, 4, 5] rfl (fun _ => rfl) (fun _ => rfl) (by decide) (by decide) (fun _ => rfl) (fun _ => rfl) rfl (fun uu H locs hu hP hD hS => ?_)
  obtain ⟨u3_0, rfl⟩ : ∃ z9, z9 = uu := ⟨_, rfl⟩
  have hu : (u3_0) = (p_fill4 ranks (nI 0)) := hu
  have hR := kc_ap1 (fun (u3_0 : Nat → Int32) => (ap1 (p_fill4 waits (nI 0)) (fun (u4_0 : Nat → Int32) => (ap1 (p_fill4 told (nI 0)) (fun (u5_0 : Nat → Int32) => ((u1_0, u2_0, u3_0, u4_0, u5_0, nI 0))))))) hu hR
  have hP : va_P D classes [(a_cores, .inr (4, [.ref a_steps, .ref a_wishes, .ref a_ranks, .ref a_waits, .ref a_told, .ref a_grants, .int ticksHeld])), (a_steps, .inl (cI, 4, .inl u1_0)), (a_wishes, .inl (cI, 4, .inl u2_0)), (a_ranks, .inl (cI, 4, .inl u3_0)), (a_waits, .inl (cI, 4, .inl waits)), (a_told, .inl (cI, 4, .inl told))] H := hP
  have hD : va_D A [(a_cores, .inr (4, [.ref a_steps, .ref a_wishes, .ref a_ranks, .ref a_waits, .ref a_told, .ref a_grants, .int ticksHeld])), (a_steps, .inl (cI, 4, .inl u1_0)), (a_wishes, .inl (cI, 4, .inl u2_0)), (a_ranks, .inl (cI, 4, .inl u3_0)), (a_waits, .inl (cI, 4, .inl waits)), (a_told, .inl (cI, 4, .inl told))] := hD
  refine lv_aload_n hx hb d_Cores_begin_24 rfl (lv_at hl 0 rfl) ?_
  refine va_get (D := D) (ci := 4) (v := .ref a_waits) (C := R_Cores) (T := F_Cores) (N := 7) hx hb (u_Cores zh hZ) (fun _ h => h) hown hK hP 0 rfl rfl 3 (by decide) (wd zh hZ 184 q_184 rfl) (fun _ h9 => h9) rfl d_Cores_begin_25 ?_
  refine lv_iconst (v := nI 0) hx hb d_Cores_begin_28 (by decide) ?_
  refine ke_v (S := (Nat → Int32)) (fun uu => [(a_cores, .inr (4, [.ref a_steps, .ref a_wishes, .ref a_ranks, .ref a_waits, .ref a_told, .ref a_grants, .int ticksHeld])), (a_steps, .inl (cI, 4, .inl u1_0)), (a_wishes, .inl (cI, 4, .inl u2_0)), (a_ranks, .inl (cI, 4, .inl u3_0)), (a_waits, .inl (cI, 4, .inl uu)), (a_told, .inl (cI, 4, .inl told))]) (kr_S (As := [.ref a_waits, .int (nI 0)]) (rest := []) hx hb hml hown hZ (c_fill4 l zh D cI cZ cJ a_waits _ waits (nI 0)) (s_Cores_30_Arrays_fill zh hZ) (wd zh hZ 62 q_62 rfl) ⟨rfl, rfl, by decide, by decide⟩ (hP.sub [4] rfl) hK (hD.sub [4] (by decide) rfl) rfl hl.1 rfl (Nat.le_of_ble_eq_true rfl) d_Cores_begin_29 (Nat.zero_le _) (Nat.zero_le _)) hP hD hS hA 6 [4] [0, 1, 2, 3, 5] rfl (fun _ => rfl) (fun _ => rfl) (by decide) (by decide) (fun _ => rfl) (fun _ => rfl) rfl (fun uu H locs hu hP hD hS => ?_)
  obtain ⟨u4_0, rfl⟩ : ∃ z9, z9 = uu := ⟨_, rfl⟩
  have hu : (u4_0) = (p_fill4 waits (nI 0)) := hu
  have hR := kc_ap1 (fun (u4_0 : Nat → Int32) => (ap1 (p_fill4 told (nI 0)) (fun (u5_0 : Nat → Int32) => ((u1_0, u2_0, u3_0, u4_0, u5_0, nI 0))))) hu hR
  have hP : va_P D classes [(a_cores, .inr (4, [.ref a_steps, .ref a_wishes, .ref a_ranks, .ref a_waits, .ref a_told, .ref a_grants, .int ticksHeld])), (a_steps, .inl (cI, 4, .inl u1_0)), (a_wishes, .inl (cI, 4, .inl u2_0)), (a_ranks, .inl (cI, 4, .inl u3_0)), (a_waits, .inl (cI, 4, .inl u4_0)), (a_told, .inl (cI, 4, .inl told))] H := hP
  have hD : va_D A [(a_cores, .inr (4, [.ref a_steps, .ref a_wishes, .ref a_ranks, .ref a_waits, .ref a_told, .ref a_grants, .int ticksHeld])), (a_steps, .inl (cI, 4, .inl u1_0)), (a_wishes, .inl (cI, 4, .inl u2_0)), (a_ranks, .inl (cI, 4, .inl u3_0)), (a_waits, .inl (cI, 4, .inl u4_0)), (a_told, .inl (cI, 4, .inl told))] := hD
  refine lv_aload_n hx hb d_Cores_begin_32 rfl (lv_at hl 0 rfl) ?_
  refine va_get (D := D) (ci := 4) (v := .ref a_told) (C := R_Cores) (T := F_Cores) (N := 7) hx hb (u_Cores zh hZ) (fun _ h => h) hown hK hP 0 rfl rfl 4 (by decide) (wd zh hZ 186 q_186 rfl) (fun _ h9 => h9) rfl d_Cores_begin_33 ?_
  refine lv_iconst (v := nI 0) hx hb d_Cores_begin_36 (by decide) ?_
  refine ke_v (S := (Nat → Int32)) (fun uu => [(a_cores, .inr (4, [.ref a_steps, .ref a_wishes, .ref a_ranks, .ref a_waits, .ref a_told, .ref a_grants, .int ticksHeld])), (a_steps, .inl (cI, 4, .inl u1_0)), (a_wishes, .inl (cI, 4, .inl u2_0)), (a_ranks, .inl (cI, 4, .inl u3_0)), (a_waits, .inl (cI, 4, .inl u4_0)), (a_told, .inl (cI, 4, .inl uu))]) (kr_S (As := [.ref a_told, .int (nI 0)]) (rest := []) hx hb hml hown hZ (c_fill4 l zh D cI cZ cJ a_told _ told (nI 0)) (s_Cores_30_Arrays_fill zh hZ) (wd zh hZ 62 q_62 rfl) ⟨rfl, rfl, by decide, by decide⟩ (hP.sub [5] rfl) hK (hD.sub [5] (by decide) rfl) rfl hl.1 rfl (Nat.le_of_ble_eq_true rfl) d_Cores_begin_37 (Nat.zero_le _) (Nat.zero_le _)) hP hD hS hA 6 [5] [0, 1, 2, 3, 4] rfl (fun _ => rfl) (fun _ => rfl) (by decide) (by decide) (fun _ => rfl) (fun _ => rfl) rfl (fun uu H locs hu hP hD hS => ?_)
  obtain ⟨u5_0, rfl⟩ : ∃ z9, z9 = uu := ⟨_, rfl⟩
  have hu : (u5_0) = (p_fill4 told (nI 0)) := hu
  have hR := kc_ap1 (fun (u5_0 : Nat → Int32) => ((u1_0, u2_0, u3_0, u4_0, u5_0, nI 0))) hu hR
  have hP : va_P D classes [(a_cores, .inr (4, [.ref a_steps, .ref a_wishes, .ref a_ranks, .ref a_waits, .ref a_told, .ref a_grants, .int ticksHeld])), (a_steps, .inl (cI, 4, .inl u1_0)), (a_wishes, .inl (cI, 4, .inl u2_0)), (a_ranks, .inl (cI, 4, .inl u3_0)), (a_waits, .inl (cI, 4, .inl u4_0)), (a_told, .inl (cI, 4, .inl u5_0))] H := hP
  have hD : va_D A [(a_cores, .inr (4, [.ref a_steps, .ref a_wishes, .ref a_ranks, .ref a_waits, .ref a_told, .ref a_grants, .int ticksHeld])), (a_steps, .inl (cI, 4, .inl u1_0)), (a_wishes, .inl (cI, 4, .inl u2_0)), (a_ranks, .inl (cI, 4, .inl u3_0)), (a_waits, .inl (cI, 4, .inl u4_0)), (a_told, .inl (cI, 4, .inl u5_0))] := hD
  refine lv_aload_n hx hb d_Cores_begin_40 rfl (lv_at hl 0 rfl) ?_
  refine lv_iconst (v := nI 0) hx hb d_Cores_begin_41 (by decide) ?_
  refine va_put (D := D) (ci := 4) (v := .int (nI 0)) (ty := .int) (C := R_Cores) (T := F_Cores) (N := 7) hx hb (u_Cores zh hZ) (fun _ h => h) t_Cores t_Cores_ok n_Cores hown hK hP hD hS 0 rfl rfl 6 (by decide) (wd zh hZ 189 q_189 rfl) (fun _ h9 => h9) rfl (by decide +kernel) rfl rfl (Nat.le_of_ble_eq_true rfl) d_Cores_begin_42 (fun H locs hP hD hS => ?_)
  have hP : va_P D classes [(a_cores, .inr (4, [.ref a_steps, .ref a_wishes, .ref a_ranks, .ref a_waits, .ref a_told, .ref a_grants, .int (nI 0)])), (a_steps, .inl (cI, 4, .inl u1_0)), (a_wishes, .inl (cI, 4, .inl u2_0)), (a_ranks, .inl (cI, 4, .inl u3_0)), (a_waits, .inl (cI, 4, .inl u4_0)), (a_told, .inl (cI, 4, .inl u5_0))] H := hP
  have hD : va_D A [(a_cores, .inr (4, [.ref a_steps, .ref a_wishes, .ref a_ranks, .ref a_waits, .ref a_told, .ref a_grants, .int (nI 0)])), (a_steps, .inl (cI, 4, .inl u1_0)), (a_wishes, .inl (cI, 4, .inl u2_0)), (a_ranks, .inl (cI, 4, .inl u3_0)), (a_waits, .inl (cI, 4, .inl u4_0)), (a_told, .inl (cI, 4, .inl u5_0))] := hD
  exact (W.vret hx hb hr (fun t9 ht hW => ⟨⟨(u1_0, u2_0, u3_0, u4_0, u5_0, nI 0), rfl, hR.symm, by rw [ht]; exact hP, hD⟩, hS.F ht⟩) hS.2.2 d_Cores_begin_45).mono hQ
